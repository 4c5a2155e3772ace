-- P 12m
section
abbrev cc_hand_byLaw : scC := (qX11_byLaw, 3, [], [.inr (.inr (.inl [0]))], [], [(1, ((-2147483648), 2147483647), [], [], [])], [(5, 0, 160)])
abbrev cc_hand_partOf : scC := (qX11_partOf, 0, [((-2147483648), 2147483647)], [.inr (.inl ((-9223372036854775808), 9223372036854775807)), .inr (.inl (1, 9223372036854775807)), .inl (some 0, 0)], [], [(2, ((-9223372036854775808), 9223372036854775807), [], [], [])], [])
abbrev cc_hand_power : scC := (qX11_power, 0, [(0, 8)], [.inr (.inl (64, 64)), .inl (some 0, 0)], [], [(2, (1, 281474976710656), [], [], [])], [])
abbrev cc_hand_laysOption : scC := (qX11_laysOption, 3, [(0, 7), ((-2147483648), 2147483647)], [.inr (.inr (.inl [0])), .inl (some 0, 0), .inl (some 1, 0)], [], [(0, (0, 0), [], [], [])], [(11, 0, 2197), (12, 0, 2197)])
abbrev cc_hand_yearsBy : scC := (qX11_yearsBy, 12, [((-2147483648), 2147483647), (1, 60)], [.inr (.inr (.inl [0])), .inl (some 0, 0), .inl (some 1, 0)], [], [(0, (0, 0), [], [], [])], [(0, 47, 2), (5, 0, 160), (6, 0, 5), (8, 0, 14)])
abbrev cc_hand_putsAll0 : scC := (qX11_putsAll, 1, [], [.inr (.inr (.inl [0])), .inr (.inr (.inl [519, 520, 521])), .inl (none, 0)], [], [(0, (0, 0), [], [], [])], [(0, 32, 1), (0, 35, 1), (7, 0, 14), (503, 0, 14), (504, 0, 14), (505, 0, 14), (506, 0, 14), (507, 0, 14), (508, 0, 14), (509, 0, 14), (510, 0, 14), (511, 0, 14), (512, 0, 14), (513, 0, 14), (514, 0, 14), (515, 0, 14), (516, 0, 14), (517, 0, 14), (518, 0, 14), (519, 0, 239), (520, 0, 239), (521, 0, 239)])
abbrev cc_hand_putsAll1 : scC := (qX11_putsAll, 1, [], [.inr (.inr (.inl [0])), .inr (.inr (.inl [519, 520, 521])), .inl (none, 1)], [], [(0, (0, 0), [], [], [])], [(0, 32, 1), (0, 35, 1), (7, 0, 14), (503, 0, 14), (504, 0, 14), (505, 0, 14), (506, 0, 14), (507, 0, 14), (508, 0, 14), (509, 0, 14), (510, 0, 14), (511, 0, 14), (512, 0, 14), (513, 0, 14), (514, 0, 14), (515, 0, 14), (516, 0, 14), (517, 0, 14), (518, 0, 14)])
-- THE REFERENCE: parts, powers, laws
theorem lrem_int {x z : Int64} (hz : ¬ z = 0) : (x - x / z * z).toInt = x.toInt.tmod z.toInt := by
  have h0 : z.toInt ≠ 0 := fun e => hz (Int64.toInt_inj.mp (e.trans (by decide)))
  have h1 := Int.natAbs_tmod x.toInt z.toInt
  have h2 : x.toInt.natAbs % z.toInt.natAbs < z.toInt.natAbs := Nat.mod_lt _ (Int.natAbs_pos.mpr h0)
  have h3 := z.le_toInt
  have h4 := z.toInt_lt
  rw [Int64.toInt_sub, Int64.toInt_mul, Int64.toInt_div, Int.bmod_mul_bmod, Int.sub_bmod_bmod]
  have e : x.toInt - x.toInt.tdiv z.toInt * z.toInt = x.toInt.tmod z.toInt := by
    rw [Int.tmod_def, Int.mul_comm]
  rw [e]
  exact Int.bmod_eq_of_le (by omega) (by omega)
theorem lrem_lt {x z : Int64} (hz : ¬ z = 0) : (x - x / z * z).toInt.natAbs < z.toInt.natAbs := by
  rw [lrem_int hz, Int.natAbs_tmod]
  exact Nat.mod_lt _ (Int.natAbs_pos.mpr (fun e => hz (Int64.toInt_inj.mp (e.trans (by decide)))))
theorem pw_bd : ∀ k, k < 8 → (1 : Int) ≤ 64 ^ k ∧ (64 : Int) ^ k ≤ 4398046511104 := by decide
theorem pw_st {v a : Int64} {k : Nat} (hv : v.toInt = 64 ^ k) (ha : a.toInt = 64) (hk : k < 8) : (v * a).toInt = 64 ^ (k + 1) := by
  have h := pw_bd k hk
  rw [Int64.toInt_mul, hv, ha, Int.pow_succ]
  exact Int.bmod_eq_of_le (by omega) (by omega)
def opV (c : Nat) (u v : Int32) : Int32 := if c = 2 then u + v else if c = 3 then u - v else if c = 4 then u * v else if c = 5 then (if v = 0 then 0 else if v = -1 then -u else u / v) else if c = 6 then pvMx false u v else pvMx true u v
def lwR (kn : Nat → Int32) : tC → Nat → (Nat → Int32) → Int32
  | [], _, st => st 0
  | c :: cs, n, st => if c.1 < 2 then lwR kn cs (n + 1) (fun j => if j = n then (if c.1 = 0 then Int32.ofInt c.2 else kn c.2) else st j) else lwR kn cs (n - 1) (fun j => if j = n - 2 then opV c.1 (st (n - 2)) (st (n - 1)) else st j)
theorem tsw_d {x : Int32} {k : Nat} (h : x.toInt = k) (hk : 6 < k) : fmTsw 1 75 2 6 #[35, 39, 43, 47, 69] x = (76 : Int) := by
  unfold fmTsw
  rw [if_pos (by omega)]
  rfl
theorem sub1 {x : Int32} {n : Nat} (h : x.toInt = n) (hn : 2 ≤ n) (h2 : n < 1000) : (x + -1).toInt = ((n - 1 : Nat) : Int) := by
  have e1 : (-1 : Int32).toInt = -1 := by decide
  rw [Int32.toInt_add, e1, h]
  exact (Int.bmod_eq_of_le (by omega) (by omega)).trans (by omega)
theorem sub2 {x : Int32} {n : Nat} (h : x.toInt = n) (hn : 2 ≤ n) (h2 : n < 1000) : (x + -1 - 1).toInt = ((n - 2 : Nat) : Int) := by
  have e1 : (1 : Int32).toInt = 1 := by decide
  rw [Int32.toInt_sub, e1, sub1 h hn h2]
  exact (Int.bmod_eq_of_le (by omega) (by omega)).trans (by omega)
theorem fmI_row (M : fmM) (k j : Nat) (x : Int32) : (fmI M k j x).1 k = fun j' => if j' = j then x else M.1 k j' := by
  funext j'
  by_cases e : j' = j
  · subst e
    rw [fmI_s, if_pos rfl]
  · rw [fmI_j _ _ e, if_neg e]
theorem lwHas.tl {m : Nat → Nat → Int32} {b : Nat} {c : Nat × Nat} {cs : tC} (h : lwHas m b (c :: cs)) : lwHas m (b + 1) cs := fun i d hd => by
  have h9 := h (i + 1) d hd
  rw [show b + (i + 1) = b + 1 + i by omega] at h9
  exact h9
theorem lwHas.fr {m m' : Nat → Nat → Int32} {b : Nat} {cs : tC} (h : lwHas m b cs) (e : ∀ k j, b ≤ k → m' k j = m k j) : lwHas m' b cs := fun i d hd => by
  rw [e _ _ (by omega), e _ _ (by omega)]
  exact h i d hd
theorem sc_ev {env : List scI} {σ : List Int} {i : Nat} {e : scI} {x : Int} (hE : scEk env σ) (he : env[i]? = some e) (h : scEv σ (some i, 0) x) : e.1 ≤ x ∧ x ≤ e.2 := by
  obtain ⟨v, hv, e1⟩ := h
  have h9 := hE.2 i e v he hv
  have e2 : x = v := e1.trans (Int.add_zero v)
  rw [e2]
  exact h9
theorem scInvM_top {M M' : fmM} (c : Nat) (hc : invM c = [((-2147483648), 2147483647)]) (hp : ∀ j, jmPr c j = false) (hI : scInv Tm invM M) (h : ∀ q j, q ≠ c → M'.1 q j = M.1 q j) : scInv Tm invM M' := by
  refine ⟨fun k j hj => ?_, fun hm => jm_stable (hI.2 hm) (fun k j hk => ?_)⟩
  · by_cases e : k = c
    · subst e
      have h9 := scq_t (M'.1 k j)
      have e9 : scAt (invM k) j = scTop := by rw [hc]; cases j <;> rfl
      rw [e9]
      exact h9
    · rw [h k j e]
      exact hI.1 k j hj
  · refine h k j (fun e => ?_)
    subst e
    rw [hp j] at hk
    cases hk
def loFr (M0 M : fmM) : Prop := M.1 = M0.1 ∧ ∀ k j, ¬ ((k = 11 ∨ k = 12) ∧ j < 2197) → M.2 k j = M0.2 k j
theorem loFr.put {M0 M : fmM} {k j : Nat} {x : Int64} (h : loFr M0 M) (hk : k = 11 ∨ k = 12) (hj : j < 2197) : loFr M0 (fmJ M k j x) := by
  refine ⟨h.1, fun k' j' hn => ?_⟩
  rw [← h.2 k' j' hn]
  by_cases e : k' = k
  · subst e
    rw [fmJ_j _ _ (fun e => hn ⟨hk, by omega⟩)]
  · rw [fmJ_k _ _ e]
theorem ro_in {a b c : Int32} {x y z : Nat} (ha : a.toInt = x) (hb : b.toInt = y) (hc : c.toInt = z) (hx : x ≤ 12) (hy : y ≤ 12) (hz : z ≤ 12) : ((13 * a + b) * 13 + c).toInt = (((13 * x + y) * 13 + z : Nat) : Int) := by
  have e1 : (13 : Int32).toInt = 13 := by decide
  have r1 : (13 * a).toInt = 13 * x := by
    rw [Int32.toInt_mul, e1, ha]
    exact Int.bmod_eq_of_le (by omega) (by omega)
  have r2 : (13 * a + b).toInt = 13 * x + y := by
    rw [Int32.toInt_add, r1, hb]
    exact Int.bmod_eq_of_le (by omega) (by omega)
  have r3 : ((13 * a + b) * 13).toInt = (13 * x + y) * 13 := by
    rw [Int32.toInt_mul, r2, e1]
    exact Int.bmod_eq_of_le (by omega) (by omega)
  rw [Int32.toInt_add, r3, hc]
  exact (Int.bmod_eq_of_le (by omega) (by omega)).trans (by omega)
theorem sb_i {a s : Int32} {x y : Nat} (ha : a.toInt = x) (hs : s.toInt = y) (hyx : y ≤ x) (hx : x ≤ 13) : (a - s).toInt = ((x - y : Nat) : Int) := by
  rw [Int32.toInt_sub, ha, hs]
  exact (Int.bmod_eq_of_le (by omega) (by omega)).trans (by omega)
set_option maxRecDepth 20000 in
theorem po_loop {Q : fmR → fmM → Prop} {M : fmM} {up low : Int64} {w : Int32} (hq : ∀ r : Int64, Q (.inl (some (.long r))) M) : ∀ (m : Nat) (a b : Int64) (v9 v10 : Option Value), b.toInt.natAbs = m → ¬ a = 0 → pvEv Tm 0 qX11_partOf 6 [some (.long up), none, some (.long low), none, some (.int w), some (.long a), none, some (.long b), none, v9, v10] [] M Q := by
  intro m
  induction m using Nat.strongRecOn with
  | _ m ih =>
    intro a b v9 v10 hm ha
    refine pv_lload (pc := 6) (i := 7) rfl (fm_dec dtX11_partOf 4 rfl) ?_
    refine pv_lconst (pc := 8) (v := 0) (by decide) (fm_dec dtX11_partOf 5 rfl) ?_
    refine pv_lcmp (pc := 9) (fm_dec dtX11_partOf 6 rfl) ?_
    refine pv_if_eq (pc := 10) 31 (by decide) (fm_dec dtX11_partOf 7 rfl) (fun hc10 => ?_) (fun hc10 => ?_)
    · refine pv_iload (pc := 31) (i := 4) rfl (fm_dec dtX11_partOf 17 rfl) ?_
      refine pv_if_ne (pc := 33) 43 (by decide) (fm_dec dtX11_partOf 18 rfl) (fun hc33 => ?_) (fun hc33 => ?_)
      · refine pv_lloadn (pc := 43) (n := 2) 2 rfl rfl (fm_dec dtX11_partOf 23 rfl) ?_
        refine pv_lload (pc := 44) (i := 5) rfl (fm_dec dtX11_partOf 24 rfl) ?_
        refine pv_ldiv (pc := 46) ha (fm_dec dtX11_partOf 25 rfl) ?_
        exact pv_lreturn (pc := 47) rfl (fm_dec dtX11_partOf 26 rfl) (hq _)
      · refine pv_lloadn (pc := 36) (n := 0) 0 rfl rfl (fm_dec dtX11_partOf 19 rfl) ?_
        refine pv_lload (pc := 37) (i := 5) rfl (fm_dec dtX11_partOf 20 rfl) ?_
        refine pv_ldiv (pc := 39) ha (fm_dec dtX11_partOf 21 rfl) ?_
        refine pv_goto (pc := 40) 47 (by decide) (fm_dec dtX11_partOf 22 rfl) ?_
        exact pv_lreturn (pc := 47) rfl (fm_dec dtX11_partOf 26 rfl) (hq _)
    · refine pv_lload (pc := 13) (i := 5) rfl (fm_dec dtX11_partOf 8 rfl) ?_
      refine pv_lload (pc := 15) (i := 7) rfl (fm_dec dtX11_partOf 9 rfl) ?_
      refine pv_lrem (pc := 17) (fun e => hc10 (by subst e; rfl)) (fm_dec dtX11_partOf 10 rfl) ?_
      refine pv_lstore (pc := 18) (i := 9) (by decide) rfl (fm_dec dtX11_partOf 11 rfl) ?_
      dsimp only [List.set_cons_zero, List.set_cons_succ]
      refine pv_lload (pc := 20) (i := 7) rfl (fm_dec dtX11_partOf 12 rfl) ?_
      refine pv_lstore (pc := 22) (i := 5) (by decide) rfl (fm_dec dtX11_partOf 13 rfl) ?_
      dsimp only [List.set_cons_zero, List.set_cons_succ]
      refine pv_lload (pc := 24) (i := 9) rfl (fm_dec dtX11_partOf 14 rfl) ?_
      refine pv_lstore (pc := 26) (i := 7) (by decide) rfl (fm_dec dtX11_partOf 15 rfl) ?_
      dsimp only [List.set_cons_zero, List.set_cons_succ]
      refine pv_goto (pc := 28) 6 (by decide) (fm_dec dtX11_partOf 16 rfl) ?_
      have hb : ¬ b = 0 := fun e => hc10 (by subst e; rfl)
      exact ih _ (by rw [← hm]; exact lrem_lt hb) b _ _ _ rfl hb
set_option maxRecDepth 20000 in
theorem c_partOf {M : fmM} {Q : fmR → fmM → Prop} {up low : Int64} {w : Int32} (hl : ¬ low = 0) (hq : ∀ r : Int64, Q (.inl (some (.long r))) M) : pvGood Tm 0 qX11_partOf [.long up, .long low, .int w] M Q := by
  refine pvGood_of (Nat.le_of_ble_eq_true rfl) ?_
  show pvEv Tm 0 qX11_partOf 0 [some (.long up), none, some (.long low), none, some (.int w), none, none, none, none, none, none] [] M Q
  refine pv_lloadn (pc := 0) (n := 2) 2 rfl rfl (fm_dec dtX11_partOf 0 rfl) ?_
  refine pv_lstore (pc := 1) (i := 5) (by decide) rfl (fm_dec dtX11_partOf 1 rfl) ?_
  dsimp only [List.set_cons_zero, List.set_cons_succ]
  refine pv_lloadn (pc := 3) (n := 0) 0 rfl rfl (fm_dec dtX11_partOf 2 rfl) ?_
  refine pv_lstore (pc := 4) (i := 7) (by decide) rfl (fm_dec dtX11_partOf 3 rfl) ?_
  dsimp only [List.set_cons_zero, List.set_cons_succ]
  exact po_loop hq _ low up _ _ rfl hl
set_option maxRecDepth 20000 in
theorem pw_loop {Q : fmR → fmM → Prop} {M : fmM} {a : Int64} {n : Int32} {mm : Nat} (ha : a.toInt = 64) (hn : n.toInt = mm) (hm8 : mm ≤ 8) (hq : ∀ r : Int64, r.toInt = 64 ^ mm → Q (.inl (some (.long r))) M) : ∀ (m : Nat) (v : Int64) (k : Nat) (kk : Int32), kk.toInt = k → k + m = mm → v.toInt = 64 ^ k → pvEv Tm 0 qX11_power 5 [some (.long a), none, some (.int n), some (.long v), none, some (.int kk)] [] M Q := by
  intro m
  induction m using Nat.strongRecOn with
  | _ m ih =>
    intro v k kk hkk hm hv
    refine pv_iload (pc := 5) (i := 5) rfl (fm_dec dtX11_power 4 rfl) ?_
    refine pv_iloadn (pc := 7) (n := 2) 2 rfl rfl (fm_dec dtX11_power 5 rfl) ?_
    refine pv_icmp_ge (pc := 8) 21 (by decide) (fm_dec dtX11_power 6 rfl) (fun hc8 => ?_) (fun hc8 => ?_)
    · refine pv_lloadn (pc := 21) (n := 3) 3 rfl rfl (fm_dec dtX11_power 13 rfl) ?_
      exact pv_lreturn (pc := 22) rfl (fm_dec dtX11_power 14 rfl) (hq _ (by have h9 : k = mm := (by rw [sc_le] at hc8; omega); subst h9; exact hv))
    · refine pv_lloadn (pc := 11) (n := 3) 3 rfl rfl (fm_dec dtX11_power 7 rfl) ?_
      refine pv_lloadn (pc := 12) (n := 0) 0 rfl rfl (fm_dec dtX11_power 8 rfl) ?_
      refine pv_lmul (pc := 13) (fm_dec dtX11_power 9 rfl) ?_
      refine pv_lstoren (pc := 14) (n := 3) 3 rfl (by decide) rfl (fm_dec dtX11_power 10 rfl) ?_
      dsimp only [List.set_cons_zero, List.set_cons_succ]
      refine pv_iincc (pc := 15) 5 1 (by decide) rfl (by decide) rfl (fm_dec dtX11_power 11 rfl) ?_
      dsimp only [List.set_cons_zero, List.set_cons_succ]
      refine pv_goto (pc := 18) 5 (by decide) (fm_dec dtX11_power 12 rfl) ?_
      have hk8 : k < mm := (by rw [sc_le] at hc8; omega)
      exact ih (mm - (k + 1)) (by omega) _ (k + 1) _ (i32_p1 hkk (by omega)) (by omega) (pw_st hv ha (by omega))
set_option maxRecDepth 20000 in
theorem c_power {M : fmM} {Q : fmR → fmM → Prop} {a : Int64} {n : Int32} {mm : Nat} (ha : a.toInt = 64) (hn : n.toInt = mm) (hm8 : mm ≤ 8) (hq : ∀ r : Int64, r.toInt = 64 ^ mm → Q (.inl (some (.long r))) M) : pvGood Tm 0 qX11_power [.long a, .int n] M Q := by
  refine pvGood_of (Nat.le_of_ble_eq_true rfl) ?_
  show pvEv Tm 0 qX11_power 0 [some (.long a), none, some (.int n), none, none, none] [] M Q
  refine pv_lconst (pc := 0) (v := 1) (by decide) (fm_dec dtX11_power 0 rfl) ?_
  refine pv_lstoren (pc := 1) (n := 3) 3 rfl (by decide) rfl (fm_dec dtX11_power 1 rfl) ?_
  dsimp only [List.set_cons_zero, List.set_cons_succ]
  refine pv_iconst (pc := 2) (v := 0) (by decide) (fm_dec dtX11_power 2 rfl) ?_
  refine pv_istore (pc := 3) (i := 5) (by decide) rfl (fm_dec dtX11_power 3 rfl) ?_
  dsimp only [List.set_cons_zero, List.set_cons_succ]
  exact pw_loop ha hn hm8 hq mm 1 0 0 (by decide) (by omega) (by decide)
set_option maxRecDepth 20000 in
theorem c_by2 {M : fmM} {Q : fmR → fmM → Prop} {u v : Int32} (hq : Q (.inl (some (.int (opV 2 u v)))) M) : pvGood Tm 1 qX11_by [.int 2, .int u, .int v] M Q := by
  refine pvGood_of (Nat.le_of_ble_eq_true rfl) ?_
  show pvEv Tm 1 qX11_by 0 [some (.int 2), some (.int u), some (.int v)] [] M Q
  refine pv_iloadn (pc := 0) (n := 0) 0 rfl rfl (fm_dec dtX11_by 0 rfl) ?_
  refine pv_table (pc := 1) 36 (by decide) rfl (fm_dec dtX11_by 1 rfl) ?_
  refine pv_iloadn (pc := 36) (n := 1) 1 rfl rfl (fm_dec dtX11_by 2 rfl) ?_
  refine pv_iloadn (pc := 37) (n := 2) 2 rfl rfl (fm_dec dtX11_by 3 rfl) ?_
  refine pv_iadd (pc := 38) (fm_dec dtX11_by 4 rfl) ?_
  exact pv_ireturn (pc := 39) rfl (fm_dec dtX11_by 5 rfl) (by exact hq)
set_option maxRecDepth 20000 in
theorem c_by3 {M : fmM} {Q : fmR → fmM → Prop} {u v : Int32} (hq : Q (.inl (some (.int (opV 3 u v)))) M) : pvGood Tm 1 qX11_by [.int 3, .int u, .int v] M Q := by
  refine pvGood_of (Nat.le_of_ble_eq_true rfl) ?_
  show pvEv Tm 1 qX11_by 0 [some (.int 3), some (.int u), some (.int v)] [] M Q
  refine pv_iloadn (pc := 0) (n := 0) 0 rfl rfl (fm_dec dtX11_by 0 rfl) ?_
  refine pv_table (pc := 1) 40 (by decide) rfl (fm_dec dtX11_by 1 rfl) ?_
  refine pv_iloadn (pc := 40) (n := 1) 1 rfl rfl (fm_dec dtX11_by 6 rfl) ?_
  refine pv_iloadn (pc := 41) (n := 2) 2 rfl rfl (fm_dec dtX11_by 7 rfl) ?_
  refine pv_isub (pc := 42) (fm_dec dtX11_by 8 rfl) ?_
  exact pv_ireturn (pc := 43) rfl (fm_dec dtX11_by 9 rfl) (by exact hq)
set_option maxRecDepth 20000 in
theorem c_by4 {M : fmM} {Q : fmR → fmM → Prop} {u v : Int32} (hq : Q (.inl (some (.int (opV 4 u v)))) M) : pvGood Tm 1 qX11_by [.int 4, .int u, .int v] M Q := by
  refine pvGood_of (Nat.le_of_ble_eq_true rfl) ?_
  show pvEv Tm 1 qX11_by 0 [some (.int 4), some (.int u), some (.int v)] [] M Q
  refine pv_iloadn (pc := 0) (n := 0) 0 rfl rfl (fm_dec dtX11_by 0 rfl) ?_
  refine pv_table (pc := 1) 44 (by decide) rfl (fm_dec dtX11_by 1 rfl) ?_
  refine pv_iloadn (pc := 44) (n := 1) 1 rfl rfl (fm_dec dtX11_by 10 rfl) ?_
  refine pv_iloadn (pc := 45) (n := 2) 2 rfl rfl (fm_dec dtX11_by 11 rfl) ?_
  refine pv_imul (pc := 46) (fm_dec dtX11_by 12 rfl) ?_
  exact pv_ireturn (pc := 47) rfl (fm_dec dtX11_by 13 rfl) (by exact hq)
set_option maxRecDepth 20000 in
theorem c_by5 {M : fmM} {Q : fmR → fmM → Prop} {u v : Int32} (hq : Q (.inl (some (.int (opV 5 u v)))) M) : pvGood Tm 1 qX11_by [.int 5, .int u, .int v] M Q := by
  refine pvGood_of (Nat.le_of_ble_eq_true rfl) ?_
  show pvEv Tm 1 qX11_by 0 [some (.int 5), some (.int u), some (.int v)] [] M Q
  refine pv_iloadn (pc := 0) (n := 0) 0 rfl rfl (fm_dec dtX11_by 0 rfl) ?_
  refine pv_table (pc := 1) 48 (by decide) rfl (fm_dec dtX11_by 1 rfl) ?_
  refine pv_iloadn (pc := 48) (n := 2) 2 rfl rfl (fm_dec dtX11_by 14 rfl) ?_
  refine pv_if_ne (pc := 49) 56 (by decide) (fm_dec dtX11_by 15 rfl) (fun hc49 => ?_) (fun hc49 => ?_)
  · refine pv_iloadn (pc := 56) (n := 2) 2 rfl rfl (fm_dec dtX11_by 18 rfl) ?_
    refine pv_iconst (pc := 57) (v := (-1)) (by decide) (fm_dec dtX11_by 19 rfl) ?_
    refine pv_icmp_ne (pc := 58) 66 (by decide) (fm_dec dtX11_by 20 rfl) (fun hc58 => ?_) (fun hc58 => ?_)
    · refine pv_iloadn (pc := 66) (n := 1) 1 rfl rfl (fm_dec dtX11_by 24 rfl) ?_
      refine pv_iloadn (pc := 67) (n := 2) 2 rfl rfl (fm_dec dtX11_by 25 rfl) ?_
      refine pv_idiv (pc := 68) hc49 (fm_dec dtX11_by 26 rfl) ?_
      exact pv_ireturn (pc := 69) rfl (fm_dec dtX11_by 27 rfl) (show Q (.inl (some (.int (u / v)))) M by have h9 : opV 5 u v = u / v := (show (if v = 0 then 0 else if v = -1 then -u else u / v) = _ by rw [if_neg hc49, if_neg hc58]); rw [← h9]; exact hq)
    · refine pv_iloadn (pc := 61) (n := 1) 1 rfl rfl (fm_dec dtX11_by 21 rfl) ?_
      refine pv_ineg (pc := 62) (fm_dec dtX11_by 22 rfl) ?_
      refine pv_goto (pc := 63) 69 (by decide) (fm_dec dtX11_by 23 rfl) ?_
      exact pv_ireturn (pc := 69) rfl (fm_dec dtX11_by 27 rfl) (show Q (.inl (some (.int (-u)))) M by have h9 : opV 5 u v = -u := (show (if v = 0 then 0 else if v = -1 then -u else u / v) = _ by rw [if_neg hc49, if_pos hc58]); rw [← h9]; exact hq)
  · refine pv_iconst (pc := 52) (v := 0) (by decide) (fm_dec dtX11_by 16 rfl) ?_
    refine pv_goto (pc := 53) 69 (by decide) (fm_dec dtX11_by 17 rfl) ?_
    exact pv_ireturn (pc := 69) rfl (fm_dec dtX11_by 27 rfl) (show Q (.inl (some (.int 0))) M by have h9 : opV 5 u v = 0 := (show (if v = 0 then 0 else if v = -1 then -u else u / v) = _ by rw [if_pos hc49]); rw [← h9]; exact hq)
set_option maxRecDepth 20000 in
theorem c_by6 {M : fmM} {Q : fmR → fmM → Prop} {u v : Int32} (hq : Q (.inl (some (.int (opV 6 u v)))) M) : pvGood Tm 1 qX11_by [.int 6, .int u, .int v] M Q := by
  refine pvGood_of (Nat.le_of_ble_eq_true rfl) ?_
  show pvEv Tm 1 qX11_by 0 [some (.int 6), some (.int u), some (.int v)] [] M Q
  refine pv_iloadn (pc := 0) (n := 0) 0 rfl rfl (fm_dec dtX11_by 0 rfl) ?_
  refine pv_table (pc := 1) 70 (by decide) rfl (fm_dec dtX11_by 1 rfl) ?_
  refine pv_iloadn (pc := 70) (n := 1) 1 rfl rfl (fm_dec dtX11_by 28 rfl) ?_
  refine pv_iloadn (pc := 71) (n := 2) 2 rfl rfl (fm_dec dtX11_by 29 rfl) ?_
  refine pv_mm (pc := 72) pmm_X11_237 (by decide) (Nat.le_of_ble_eq_true rfl) (fm_dec dtX11_by 30 rfl) ?_
  exact pv_ireturn (pc := 75) rfl (fm_dec dtX11_by 31 rfl) (by exact hq)
set_option maxRecDepth 20000 in
theorem c_by7 {M : fmM} {Q : fmR → fmM → Prop} {c u v : Int32} {k : Nat} (hc : c.toInt = k) (hk : 6 < k) (hq : Q (.inl (some (.int (pvMx true u v)))) M) : pvGood Tm 1 qX11_by [.int c, .int u, .int v] M Q := by
  refine pvGood_of (Nat.le_of_ble_eq_true rfl) ?_
  show pvEv Tm 1 qX11_by 0 [some (.int c), some (.int u), some (.int v)] [] M Q
  refine pv_iloadn (pc := 0) (n := 0) 0 rfl rfl (fm_dec dtX11_by 0 rfl) ?_
  refine pv_table (pc := 1) 76 (by decide) (tsw_d hc hk) (fm_dec dtX11_by 1 rfl) ?_
  refine pv_iloadn (pc := 76) (n := 1) 1 rfl rfl (fm_dec dtX11_by 32 rfl) ?_
  refine pv_iloadn (pc := 77) (n := 2) 2 rfl rfl (fm_dec dtX11_by 33 rfl) ?_
  refine pv_mm (pc := 78) pmm_X11_240 (by decide) (Nat.le_of_ble_eq_true rfl) (fm_dec dtX11_by 34 rfl) ?_
  exact pv_ireturn (pc := 81) rfl (fm_dec dtX11_by 35 rfl) hq
theorem c_by {M : fmM} {Q : fmR → fmM → Prop} {c u v : Int32} {k : Nat} (hc : c.toInt = k) (hk : 2 ≤ k) (hq : Q (.inl (some (.int (opV k u v)))) M) : pvGood Tm 1 qX11_by [.int c, .int u, .int v] M Q := by
  by_cases h6 : 6 < k
  · refine c_by7 hc h6 ?_
    have h9 : opV k u v = pvMx true u v := by
      unfold opV
      rw [if_neg (by omega), if_neg (by omega), if_neg (by omega), if_neg (by omega), if_neg (by omega)]
    rw [← h9]
    exact hq
  · have hx : c = nI k := nI_is hc (by omega)
    rcases (show k = 2 ∨ k = 3 ∨ k = 4 ∨ k = 5 ∨ k = 6 by omega) with e | e | e | e | e <;> subst e <;> subst hx
    · exact c_by2 hq
    · exact c_by3 hq
    · exact c_by4 hq
    · exact c_by5 hq
    · exact c_by6 hq
set_option maxRecDepth 20000 in
theorem bl_loop {len : Nat} (h160 : len ≤ 160) {Q : fmR → fmM → Prop} : ∀ (rs : tC) (M : fmM) (n k : Nat) (nn kk : Int32), nn.toInt = n → kk.toInt = k → n ≤ k → k + rs.length = len → (M.1 0 17).toInt = len → dpR n rs = some 1 → lwHas M.1 (91 + k) rs → (∀ M' : fmM, (∀ q j, ¬ (q = 5 ∧ j < 160) → M'.1 q j = M.1 q j) → M'.2 = M.2 → Q (.inl (some (.int (lwR (M.1 6) rs n (M.1 5))))) M') → pvEv Tm 3 qX11_byLaw 25 [some (.ref 0), some (.int nn), some (.int kk)] [] M Q := by
  intro rs
  induction rs with
  | nil =>
    intro M n k nn kk hnn hkk hnk hlk hlen hdp hh hq
    refine pv_iloadn (pc := 25) (n := 2) 2 rfl rfl (fm_dec dtX11_byLaw 17 rfl) ?_
    refine pv_aloadn (pc := 26) (n := 0) 0 rfl rfl (fm_dec dtX11_byLaw 18 rfl) ?_
    refine pv_getI (k := 0) (j := 17) (ci := 11) (pc := 27) pfl_X11_194 (by decide) rfl (by decide) (fm_dec dtX11_byLaw 19 rfl) ?_
    refine pv_icmp_ge (pc := 30) 134 (by decide) (fm_dec dtX11_byLaw 20 rfl) (fun _ => ?_) (fun hc30 => by exfalso; rw [sc_le] at hc30; have h9 : ([] : tC).length = 0 := rfl; omega)
    refine pv_aloadn (pc := 134) (n := 0) 0 rfl rfl (fm_dec dtX11_byLaw 84 rfl) ?_
    refine pv_getR (k := 0) (j := 23) (ci := 11) (pc := 135) 5 rfl (by decide) pfl_X11_52 (by decide) rfl (by decide) (fm_dec dtX11_byLaw 85 rfl) ?_
    refine pv_iconst (pc := 138) (v := 0) (by decide) (fm_dec dtX11_byLaw 86 rfl) ?_
    refine pv_iald (k := 5) (n := 160) (pc := 139) (by decide) rfl rfl (fm_inl (by decide)) (fm_dec dtX11_byLaw 87 rfl) ?_
    exact pv_ireturn (pc := 140) rfl (fm_dec dtX11_byLaw 88 rfl) (hq M (fun _ _ _ => rfl) rfl)
  | cons c rs ih =>
    intro M n k nn kk hnn hkk hnk hlk hlen hdp hh hq
    refine pv_iloadn (pc := 25) (n := 2) 2 rfl rfl (fm_dec dtX11_byLaw 17 rfl) ?_
    refine pv_aloadn (pc := 26) (n := 0) 0 rfl rfl (fm_dec dtX11_byLaw 18 rfl) ?_
    refine pv_getI (k := 0) (j := 17) (ci := 11) (pc := 27) pfl_X11_194 (by decide) rfl (by decide) (fm_dec dtX11_byLaw 19 rfl) ?_
    refine pv_icmp_ge (pc := 30) 134 (by decide) (fm_dec dtX11_byLaw 20 rfl) (fun hc30 => by exfalso; rw [sc_le] at hc30; have h9 : (c :: rs).length = rs.length + 1 := rfl; omega) (fun _ => ?_)
    have hcl : (c :: rs).length = rs.length + 1 := rfl
    have hk160 : k < 160 := (by have h9 : (c :: rs).length = rs.length + 1 := rfl; omega)
    have h0 := hh 0 c rfl
    rw [Nat.add_zero] at h0
    have h02 : (M.1 (91 + k) (Int32.toNatClampNeg 1)).toInt = c.2 := h0.2
    refine pv_aloadn (pc := 33) (n := 0) 0 rfl rfl (fm_dec dtX11_byLaw 21 rfl) ?_
    refine pv_getR (k := 0) (j := 19) (ci := 11) (pc := 34) 20 rfl (by decide) pfl_X11_40 (by decide) rfl (by decide) (fm_dec dtX11_byLaw 22 rfl) ?_
    refine pv_iloadn (pc := 37) (n := 2) 2 rfl rfl (fm_dec dtX11_byLaw 23 rfl) ?_
    refine pv_aald (k := 20) (n := 160) (r := (91 + k)) (pc := 38) (by decide) (Or.inr (Or.inr rfl)) rfl (rw_law.inb hkk hk160) (rw_law.at hkk hk160) (rw_law.2.2.2 _ hk160).2.1 (fm_dec dtX11_byLaw 24 rfl) ?_
    refine pv_iconst (pc := 39) (v := 0) (by decide) (fm_dec dtX11_byLaw 25 rfl) ?_
    refine pv_iald (k := (91 + k)) (n := 2) (pc := 40) (rw_law.2.2.2 _ hk160).2.2.1 (rw_law.2.2.2 _ hk160).2.2.2.1 (rw_law.2.2.2 _ hk160).2.2.2.2 (fm_inl (by decide)) (fm_dec dtX11_byLaw 26 rfl) ?_
    refine pv_iconst (pc := 41) (v := 2) (by decide) (fm_dec dtX11_byLaw 27 rfl) ?_
    refine pv_icmp_ge (pc := 42) 92 (by decide) (fm_dec dtX11_byLaw 28 rfl) (fun hc42 => ?_) (fun hc42 => ?_)
    · have hc2 : 2 ≤ c.1 := (by have hc42 := hc42; rw [sc_le] at hc42; have h7 : (M.1 (91 + k) (Int32.toNatClampNeg 0)).toInt = c.1 := h0.1; have h9 : (2 : Int32).toInt = 2 := (by decide); have h8 := h0.1; omega)
      have hdp := hdp
      simp only [dpR] at hdp
      rw [if_neg (by omega)] at hdp
      have hd2 : 2 ≤ n := (by by_cases h9 : 2 ≤ n; exact h9; rw [if_neg h9] at hdp; cases hdp)
      rw [if_pos hd2] at hdp
      have hdp9 := hdp
      refine pv_iincc (pc := 92) 1 (-1) (by decide) rfl (by decide) rfl (fm_dec dtX11_byLaw 58 rfl) ?_
      dsimp only [List.set_cons_zero, List.set_cons_succ]
      refine pv_aloadn (pc := 95) (n := 0) 0 rfl rfl (fm_dec dtX11_byLaw 59 rfl) ?_
      refine pv_getR (k := 0) (j := 23) (ci := 11) (pc := 96) 5 rfl (by decide) pfl_X11_52 (by decide) rfl (by decide) (fm_dec dtX11_byLaw 60 rfl) ?_
      refine pv_iloadn (pc := 99) (n := 1) 1 rfl rfl (fm_dec dtX11_byLaw 61 rfl) ?_
      refine pv_iconst (pc := 100) (v := 1) (by decide) (fm_dec dtX11_byLaw 62 rfl) ?_
      refine pv_isub (pc := 101) (fm_dec dtX11_byLaw 63 rfl) ?_
      refine pv_aloadn (pc := 102) (n := 0) 0 rfl rfl (fm_dec dtX11_byLaw 64 rfl) ?_
      refine pv_getR (k := 0) (j := 19) (ci := 11) (pc := 103) 20 rfl (by decide) pfl_X11_40 (by decide) rfl (by decide) (fm_dec dtX11_byLaw 65 rfl) ?_
      refine pv_iloadn (pc := 106) (n := 2) 2 rfl rfl (fm_dec dtX11_byLaw 66 rfl) ?_
      refine pv_aald (k := 20) (n := 160) (r := (91 + k)) (pc := 107) (by decide) (Or.inr (Or.inr rfl)) rfl (rw_law.inb hkk hk160) (rw_law.at hkk hk160) (rw_law.2.2.2 _ hk160).2.1 (fm_dec dtX11_byLaw 67 rfl) ?_
      refine pv_iconst (pc := 108) (v := 0) (by decide) (fm_dec dtX11_byLaw 68 rfl) ?_
      refine pv_iald (k := (91 + k)) (n := 2) (pc := 109) (rw_law.2.2.2 _ hk160).2.2.1 (rw_law.2.2.2 _ hk160).2.2.2.1 (rw_law.2.2.2 _ hk160).2.2.2.2 (fm_inl (by decide)) (fm_dec dtX11_byLaw 69 rfl) ?_
      refine pv_aloadn (pc := 110) (n := 0) 0 rfl rfl (fm_dec dtX11_byLaw 70 rfl) ?_
      refine pv_getR (k := 0) (j := 23) (ci := 11) (pc := 111) 5 rfl (by decide) pfl_X11_52 (by decide) rfl (by decide) (fm_dec dtX11_byLaw 71 rfl) ?_
      refine pv_iloadn (pc := 114) (n := 1) 1 rfl rfl (fm_dec dtX11_byLaw 72 rfl) ?_
      refine pv_iconst (pc := 115) (v := 1) (by decide) (fm_dec dtX11_byLaw 73 rfl) ?_
      refine pv_isub (pc := 116) (fm_dec dtX11_byLaw 74 rfl) ?_
      refine pv_iald (k := 5) (n := 160) (pc := 117) (by decide) rfl rfl (ix_in (sub2 hnn hd2 (by omega)) (by omega)) (fm_dec dtX11_byLaw 75 rfl) ?_
      refine pv_aloadn (pc := 118) (n := 0) 0 rfl rfl (fm_dec dtX11_byLaw 76 rfl) ?_
      refine pv_getR (k := 0) (j := 23) (ci := 11) (pc := 119) 5 rfl (by decide) pfl_X11_52 (by decide) rfl (by decide) (fm_dec dtX11_byLaw 77 rfl) ?_
      refine pv_iloadn (pc := 122) (n := 1) 1 rfl rfl (fm_dec dtX11_byLaw 78 rfl) ?_
      refine pv_iald (k := 5) (n := 160) (pc := 123) (by decide) rfl rfl (ix_in (sub1 hnn hd2 (by omega)) (by omega)) (fm_dec dtX11_byLaw 79 rfl) ?_
      refine pv_iS3 (d' := 1) (pc := 124) pcs_X11_243 (Nat.le_of_ble_eq_true rfl) (by decide) (fm_dec dtX11_byLaw 80 rfl) ?_
      refine c_by h0.1 hc2 ?_
      refine pv_then1 ?_
      refine pv_iast (k := 5) (n := 160) (pc := 127) (by decide) rfl rfl (ix_in (sub2 hnn hd2 (by omega)) (by omega)) (fm_dec dtX11_byLaw 81 rfl) ?_
      refine pv_iincc (pc := 128) 2 1 (by decide) rfl (by decide) rfl (fm_dec dtX11_byLaw 82 rfl) ?_
      dsimp only [List.set_cons_zero, List.set_cons_succ]
      refine pv_goto (pc := 131) 25 (by decide) (fm_dec dtX11_byLaw 83 rfl) ?_
      rw [i32_cl (sub2 hnn hd2 (by omega)), i32_cl (sub1 hnn hd2 (by omega))]
      have e9 : lwR (M.1 6) (c :: rs) n (M.1 5) = lwR ((fmI M 5 (n - 2) (opV c.1 (M.1 5 (n - 2)) (M.1 5 (n - 1)))).1 6) rs (n - 1) ((fmI M 5 (n - 2) (opV c.1 (M.1 5 (n - 2)) (M.1 5 (n - 1)))).1 5) := (by rw [fmI_k _ _ (by decide), fmI_row]; simp only [lwR]; rw [if_neg (by omega)])
      exact ih _ (n - 1) (k + 1) _ _ (sub1 hnn hd2 (by omega)) (i32_p1 hkk (by omega)) (by omega) (by omega) ((congrArg Int32.toInt (by rw [fmI_k _ _ (by decide)])).trans hlen) hdp9 ((hh.tl).fr (fun q j hq => by rw [fmI_k _ _ (by omega)])) (fun M' h1 h2 => by rw [← e9]; exact hq M' (fun q j hqj => (h1 q j hqj).trans (by rw [fmI_at, if_neg (by omega)])) h2)
    · have hc2 : c.1 < 2 := (by have hc42 := hc42; rw [sc_le] at hc42; have h7 : (M.1 (91 + k) (Int32.toNatClampNeg 0)).toInt = c.1 := h0.1; have h9 : (2 : Int32).toInt = 2 := (by decide); have h8 := h0.1; omega)
      have hdp := hdp
      simp only [dpR] at hdp
      rw [if_pos hc2] at hdp
      have hkn : ¬ (c.1 = 1 ∧ 4 < c.2) := (by intro h9; rw [if_pos h9] at hdp; cases hdp)
      rw [if_neg hkn] at hdp
      have hdp9 := hdp
      refine pv_aloadn (pc := 45) (n := 0) 0 rfl rfl (fm_dec dtX11_byLaw 29 rfl) ?_
      refine pv_getR (k := 0) (j := 23) (ci := 11) (pc := 46) 5 rfl (by decide) pfl_X11_52 (by decide) rfl (by decide) (fm_dec dtX11_byLaw 30 rfl) ?_
      refine pv_iloadn (pc := 49) (n := 1) 1 rfl rfl (fm_dec dtX11_byLaw 31 rfl) ?_
      refine pv_aloadn (pc := 50) (n := 0) 0 rfl rfl (fm_dec dtX11_byLaw 32 rfl) ?_
      refine pv_getR (k := 0) (j := 19) (ci := 11) (pc := 51) 20 rfl (by decide) pfl_X11_40 (by decide) rfl (by decide) (fm_dec dtX11_byLaw 33 rfl) ?_
      refine pv_iloadn (pc := 54) (n := 2) 2 rfl rfl (fm_dec dtX11_byLaw 34 rfl) ?_
      refine pv_aald (k := 20) (n := 160) (r := (91 + k)) (pc := 55) (by decide) (Or.inr (Or.inr rfl)) rfl (rw_law.inb hkk hk160) (rw_law.at hkk hk160) (rw_law.2.2.2 _ hk160).2.1 (fm_dec dtX11_byLaw 35 rfl) ?_
      refine pv_iconst (pc := 56) (v := 0) (by decide) (fm_dec dtX11_byLaw 36 rfl) ?_
      refine pv_iald (k := (91 + k)) (n := 2) (pc := 57) (rw_law.2.2.2 _ hk160).2.2.1 (rw_law.2.2.2 _ hk160).2.2.2.1 (rw_law.2.2.2 _ hk160).2.2.2.2 (fm_inl (by decide)) (fm_dec dtX11_byLaw 37 rfl) ?_
      refine pv_if_ne (pc := 58) 72 (by decide) (fm_dec dtX11_byLaw 38 rfl) (fun hc58 => ?_) (fun hc58 => ?_)
      · have hcc : c.1 = 1 := (by have h9 : ¬ c.1 = 0 := (fun h9 => hc58 (i32_ext (h0.1.trans (by rw [h9]; decide)))); omega)
        refine pv_aloadn (pc := 72) (n := 0) 0 rfl rfl (fm_dec dtX11_byLaw 46 rfl) ?_
        refine pv_getR (k := 0) (j := 24) (ci := 11) (pc := 73) 6 rfl (by decide) pfl_X11_55 (by decide) rfl (by decide) (fm_dec dtX11_byLaw 47 rfl) ?_
        refine pv_aloadn (pc := 76) (n := 0) 0 rfl rfl (fm_dec dtX11_byLaw 48 rfl) ?_
        refine pv_getR (k := 0) (j := 19) (ci := 11) (pc := 77) 20 rfl (by decide) pfl_X11_40 (by decide) rfl (by decide) (fm_dec dtX11_byLaw 49 rfl) ?_
        refine pv_iloadn (pc := 80) (n := 2) 2 rfl rfl (fm_dec dtX11_byLaw 50 rfl) ?_
        refine pv_aald (k := 20) (n := 160) (r := (91 + k)) (pc := 81) (by decide) (Or.inr (Or.inr rfl)) rfl (rw_law.inb hkk hk160) (rw_law.at hkk hk160) (rw_law.2.2.2 _ hk160).2.1 (fm_dec dtX11_byLaw 51 rfl) ?_
        refine pv_iconst (pc := 82) (v := 1) (by decide) (fm_dec dtX11_byLaw 52 rfl) ?_
        refine pv_iald (k := (91 + k)) (n := 2) (pc := 83) (rw_law.2.2.2 _ hk160).2.2.1 (rw_law.2.2.2 _ hk160).2.2.2.1 (rw_law.2.2.2 _ hk160).2.2.2.2 (fm_inl (by decide)) (fm_dec dtX11_byLaw 53 rfl) ?_
        refine pv_iald (k := 6) (n := 5) (pc := 84) (by decide) rfl rfl (ix_in h0.2 (by have := hkn; omega)) (fm_dec dtX11_byLaw 54 rfl) ?_
        refine pv_iast (k := 5) (n := 160) (pc := 85) (by decide) rfl rfl (ix_in hnn (by omega)) (fm_dec dtX11_byLaw 55 rfl) ?_
        refine pv_iincc (pc := 86) 1 1 (by decide) rfl (by decide) rfl (fm_dec dtX11_byLaw 56 rfl) ?_
        dsimp only [List.set_cons_zero, List.set_cons_succ]
        refine pv_goto (pc := 89) 128 (by decide) (fm_dec dtX11_byLaw 57 rfl) ?_
        refine pv_iincc (pc := 128) 2 1 (by decide) rfl (by decide) rfl (fm_dec dtX11_byLaw 82 rfl) ?_
        dsimp only [List.set_cons_zero, List.set_cons_succ]
        refine pv_goto (pc := 131) 25 (by decide) (fm_dec dtX11_byLaw 83 rfl) ?_
        rw [i32_cl hnn, i32_cl h02]
        have e9 : lwR (M.1 6) (c :: rs) n (M.1 5) = lwR ((fmI M 5 (n) (M.1 6 c.2)).1 6) rs (n + 1) ((fmI M 5 (n) (M.1 6 c.2)).1 5) := (by rw [fmI_k _ _ (by decide), fmI_row]; simp only [lwR]; rw [if_pos hc2, if_neg (by omega)])
        exact ih _ (n + 1) (k + 1) _ _ (i32_p1 hnn (by omega)) (i32_p1 hkk (by omega)) (by omega) (by omega) ((congrArg Int32.toInt (by rw [fmI_k _ _ (by decide)])).trans hlen) hdp9 ((hh.tl).fr (fun q j hq => by rw [fmI_k _ _ (by omega)])) (fun M' h1 h2 => by rw [← e9]; exact hq M' (fun q j hqj => (h1 q j hqj).trans (by rw [fmI_at, if_neg (by omega)])) h2)
      · have hcc : c.1 = 0 := (by have h9 : (M.1 (91 + k) (Int32.toNatClampNeg 0)).toInt = c.1 := h0.1; rw [hc58] at h9; have h8 : (0 : Int32).toInt = 0 := (by decide); omega)
        refine pv_aloadn (pc := 61) (n := 0) 0 rfl rfl (fm_dec dtX11_byLaw 39 rfl) ?_
        refine pv_getR (k := 0) (j := 19) (ci := 11) (pc := 62) 20 rfl (by decide) pfl_X11_40 (by decide) rfl (by decide) (fm_dec dtX11_byLaw 40 rfl) ?_
        refine pv_iloadn (pc := 65) (n := 2) 2 rfl rfl (fm_dec dtX11_byLaw 41 rfl) ?_
        refine pv_aald (k := 20) (n := 160) (r := (91 + k)) (pc := 66) (by decide) (Or.inr (Or.inr rfl)) rfl (rw_law.inb hkk hk160) (rw_law.at hkk hk160) (rw_law.2.2.2 _ hk160).2.1 (fm_dec dtX11_byLaw 42 rfl) ?_
        refine pv_iconst (pc := 67) (v := 1) (by decide) (fm_dec dtX11_byLaw 43 rfl) ?_
        refine pv_iald (k := (91 + k)) (n := 2) (pc := 68) (rw_law.2.2.2 _ hk160).2.2.1 (rw_law.2.2.2 _ hk160).2.2.2.1 (rw_law.2.2.2 _ hk160).2.2.2.2 (fm_inl (by decide)) (fm_dec dtX11_byLaw 44 rfl) ?_
        refine pv_goto (pc := 69) 85 (by decide) (fm_dec dtX11_byLaw 45 rfl) ?_
        refine pv_iast (k := 5) (n := 160) (pc := 85) (by decide) rfl rfl (ix_in hnn (by omega)) (fm_dec dtX11_byLaw 55 rfl) ?_
        refine pv_iincc (pc := 86) 1 1 (by decide) rfl (by decide) rfl (fm_dec dtX11_byLaw 56 rfl) ?_
        dsimp only [List.set_cons_zero, List.set_cons_succ]
        refine pv_goto (pc := 89) 128 (by decide) (fm_dec dtX11_byLaw 57 rfl) ?_
        refine pv_iincc (pc := 128) 2 1 (by decide) rfl (by decide) rfl (fm_dec dtX11_byLaw 82 rfl) ?_
        dsimp only [List.set_cons_zero, List.set_cons_succ]
        refine pv_goto (pc := 131) 25 (by decide) (fm_dec dtX11_byLaw 83 rfl) ?_
        rw [i32_cl hnn]
        have e9 : lwR (M.1 6) (c :: rs) n (M.1 5) = lwR ((fmI M 5 (n) (M.1 (91 + k) (Int32.toNatClampNeg 1))).1 6) rs (n + 1) ((fmI M 5 (n) (M.1 (91 + k) (Int32.toNatClampNeg 1))).1 5) := (by rw [fmI_k _ _ (by decide), fmI_row]; simp only [lwR]; rw [if_pos hc2, if_pos hcc, ← h02, Int32.ofInt_toInt])
        exact ih _ (n + 1) (k + 1) _ _ (i32_p1 hnn (by omega)) (i32_p1 hkk (by omega)) (by omega) (by omega) ((congrArg Int32.toInt (by rw [fmI_k _ _ (by decide)])).trans hlen) hdp9 ((hh.tl).fr (fun q j hq => by rw [fmI_k _ _ (by omega)])) (fun M' h1 h2 => by rw [← e9]; exact hq M' (fun q j hqj => (h1 q j hqj).trans (by rw [fmI_at, if_neg (by omega)])) h2)
set_option maxRecDepth 20000 in
theorem c_byLaw {M : fmM} {Q : fmR → fmM → Prop} {cs : tC} (hlen : (M.1 0 17).toInt = (cs.length : Int)) (h160 : cs.length ≤ 160) (hd : cs = [] ∨ dpR 0 cs = some 1) (hh : lwHas M.1 91 cs) (hq : ∀ M' : fmM, (∀ q j, ¬ (q = 5 ∧ j < 160) → M'.1 q j = M.1 q j) → M'.2 = M.2 → Q (.inl (some (.int (if cs = [] then M.1 6 0 + M.1 6 0 else lwR (M.1 6) cs 0 (M.1 5))))) M') : pvGood Tm 3 qX11_byLaw [.ref 0] M Q := by
  refine pvGood_of (Nat.le_of_ble_eq_true rfl) ?_
  show pvEv Tm 3 qX11_byLaw 0 [some (.ref 0), none, none] [] M Q
  refine pv_aloadn (pc := 0) (n := 0) 0 rfl rfl (fm_dec dtX11_byLaw 0 rfl) ?_
  refine pv_getI (k := 0) (j := 17) (ci := 11) (pc := 1) pfl_X11_194 (by decide) rfl (by decide) (fm_dec dtX11_byLaw 1 rfl) ?_
  refine pv_if_ne (pc := 4) 21 (by decide) (fm_dec dtX11_byLaw 2 rfl) (fun hc4 => ?_) (fun hc4 => ?_)
  · have hne : ¬ cs = [] := (by intro h9; subst h9; exact hc4 (i32_ext (hlen.trans (by decide))))
    refine pv_iconst (pc := 21) (v := 0) (by decide) (fm_dec dtX11_byLaw 13 rfl) ?_
    refine pv_istoren (pc := 22) (n := 1) 1 rfl (by decide) rfl (fm_dec dtX11_byLaw 14 rfl) ?_
    dsimp only [List.set_cons_zero, List.set_cons_succ]
    refine pv_iconst (pc := 23) (v := 0) (by decide) (fm_dec dtX11_byLaw 15 rfl) ?_
    refine pv_istoren (pc := 24) (n := 2) 2 rfl (by decide) rfl (fm_dec dtX11_byLaw 16 rfl) ?_
    dsimp only [List.set_cons_zero, List.set_cons_succ]
    refine bl_loop h160 cs M 0 0 0 0 (by decide) (by decide) (Nat.le_refl _) (by omega) hlen (hd.resolve_left hne) hh (fun M' h1 h2 => ?_)
    have h9 := hq M' h1 h2
    rw [if_neg hne] at h9
    exact h9
  · have hee : cs = [] := (by rw [hc4] at hlen; have h9 : (0 : Int32).toInt = 0 := (by decide); cases cs with | nil => rfl | cons a b => (have h8 : (a :: b).length = b.length + 1 := rfl; omega))
    refine pv_aloadn (pc := 7) (n := 0) 0 rfl rfl (fm_dec dtX11_byLaw 3 rfl) ?_
    refine pv_getR (k := 0) (j := 24) (ci := 11) (pc := 8) 6 rfl (by decide) pfl_X11_55 (by decide) rfl (by decide) (fm_dec dtX11_byLaw 4 rfl) ?_
    refine pv_iconst (pc := 11) (v := 0) (by decide) (fm_dec dtX11_byLaw 5 rfl) ?_
    refine pv_iald (k := 6) (n := 5) (pc := 12) (by decide) rfl rfl (fm_inl (by decide)) (fm_dec dtX11_byLaw 6 rfl) ?_
    refine pv_aloadn (pc := 13) (n := 0) 0 rfl rfl (fm_dec dtX11_byLaw 7 rfl) ?_
    refine pv_getR (k := 0) (j := 24) (ci := 11) (pc := 14) 6 rfl (by decide) pfl_X11_55 (by decide) rfl (by decide) (fm_dec dtX11_byLaw 8 rfl) ?_
    refine pv_iconst (pc := 17) (v := 0) (by decide) (fm_dec dtX11_byLaw 9 rfl) ?_
    refine pv_iald (k := 6) (n := 5) (pc := 18) (by decide) rfl rfl (fm_inl (by decide)) (fm_dec dtX11_byLaw 10 rfl) ?_
    refine pv_iadd (pc := 19) (fm_dec dtX11_byLaw 11 rfl) ?_
    exact pv_ireturn (pc := 20) rfl (fm_dec dtX11_byLaw 12 rfl) (by have h9 := hq M (fun _ _ _ => rfl) rfl; rw [if_pos hee] at h9; exact h9)
theorem hh_hand_partOf : scH Tm invM cc_hand_partOf := by
  intro M σ as hE hS hF hI
  obtain ⟨a, st1, e1, ha, q1⟩ := scSk_j hS
  obtain ⟨b, st2, e2, hb, q2⟩ := scSk_j q1
  obtain ⟨p, st3, e3, hp, q3⟩ := scSk_i q2
  have e5 := scSk_0 q3
  subst e5
  subst e3
  subst e2
  subst e1
  exact c_partOf (fun e => by subst e; exact absurd hb.1 (by decide)) (fun r => ⟨⟨_, List.mem_cons_self, ⟨r, rfl, (scq_l r).1, (scq_l r).2⟩, fun q hq => (by cases hq), fun q hq => (by cases hq)⟩, hI, scFr.rfl⟩)
theorem hh_hand_power : scH Tm invM cc_hand_power := by
  intro M σ as hE hS hF hI
  obtain ⟨a, st1, e1, ha, q1⟩ := scSk_j hS
  obtain ⟨p, st3, e3, hp, q3⟩ := scSk_i q1
  have e5 := scSk_0 q3
  have hp8 := sc_ev hE rfl hp
  have ha1 : 64 ≤ a.toInt := ha.1
  have ha2 : a.toInt ≤ 64 := ha.2
  have h80 : (0 : Int) ≤ p.toInt := hp8.1
  have h88 : p.toInt ≤ 8 := hp8.2
  subst e5
  subst e3
  subst e1
  refine c_power (mm := p.toInt.toNat) (by omega) (by omega) (by omega) (fun r hr => ⟨⟨_, List.mem_cons_self, ⟨r, rfl, ?_⟩, fun q hq => (by cases hq), fun q hq => (by cases hq)⟩, hI, scFr.rfl⟩)
  have h9 : ∀ k, k ≤ 8 → (1 : Int) ≤ 64 ^ k ∧ (64 : Int) ^ k ≤ 281474976710656 := by decide
  rw [hr]
  exact h9 _ (by omega)
theorem hh_hand_byLaw : scH Tm invM cc_hand_byLaw := by
  intro M σ as hE hS hF hI
  obtain ⟨r, st1, hr, e1, q1⟩ := scSk_r hS
  have e5 := scSk_0 q1
  have er : r = 0 := by simpa using hr
  subst er
  subst e5
  subst e1
  obtain ⟨⟨cs, h1, h2, h3, h4⟩, -⟩ := hI.2 rfl
  refine c_byLaw h1 h2 h3 h4 (fun M' f1 f2 => ⟨⟨_, List.mem_cons_self, ⟨_, rfl, (scq_t _).1, (scq_t _).2⟩, fun q hq => (by cases hq), fun q hq => (by cases hq)⟩, scInvM_top 5 rfl (fun j => rfl) hI (fun q j hq => f1 q j (fun h => hq h.1)), fun k j hk => ⟨f1 k j (fun h => ?_), by rw [f2]⟩⟩)
  obtain ⟨rfl, h⟩ := h
  have h9 : scIn [(5, 0, 160)] 5 j = true := by simp [scIn]; omega
  rw [h9] at hk
  cases hk
set_option maxRecDepth 20000 in
theorem c_roomOf {M : fmM} {Q : fmR → fmM → Prop} {a b c : Int32} {x y z : Nat} (ha : a.toInt = x) (hb : b.toInt = y) (hc : c.toInt = z) (hx : x ≤ 12) (hy : y ≤ 12) (hz : z ≤ 12) (hq : ∀ r : Int32, r.toInt = (((13 * x + y) * 13 + z : Nat) : Int) → Q (.inl (some (.int r))) M) : pvGood Tm 0 qX11_roomOf [.int a, .int b, .int c] M Q := by
  refine pvGood_of (Nat.le_of_ble_eq_true rfl) ?_
  show pvEv Tm 0 qX11_roomOf 0 [some (.int a), some (.int b), some (.int c)] [] M Q
  refine pv_bipush (pc := 0) (v := 13) (by decide) (fm_dec dtX11_roomOf 0 rfl) ?_
  refine pv_iloadn (pc := 2) (n := 0) 0 rfl rfl (fm_dec dtX11_roomOf 1 rfl) ?_
  refine pv_imul (pc := 3) (fm_dec dtX11_roomOf 2 rfl) ?_
  refine pv_iloadn (pc := 4) (n := 1) 1 rfl rfl (fm_dec dtX11_roomOf 3 rfl) ?_
  refine pv_iadd (pc := 5) (fm_dec dtX11_roomOf 4 rfl) ?_
  refine pv_bipush (pc := 6) (v := 13) (by decide) (fm_dec dtX11_roomOf 5 rfl) ?_
  refine pv_imul (pc := 8) (fm_dec dtX11_roomOf 6 rfl) ?_
  refine pv_iloadn (pc := 9) (n := 2) 2 rfl rfl (fm_dec dtX11_roomOf 7 rfl) ?_
  refine pv_iadd (pc := 10) (fm_dec dtX11_roomOf 8 rfl) ?_
  exact pv_ireturn (pc := 11) rfl (fm_dec dtX11_roomOf 9 rfl) (hq _ (ro_in ha hb hc hx hy hz))
set_option maxRecDepth 20000 in
theorem lo_3 {Q : fmR → fmM → Prop} {M0 : fmM} {i weeks : Int32} {way : Int64} {a b : Int32} {s0 s1 s2 x y : Nat} (h0 : (M0.1 13 0).toInt = s0) (h1 : (M0.1 13 1).toInt = s1) (h2 : (M0.1 13 2).toInt = s2) (ha : a.toInt = x) (hx : s0 ≤ x ∧ x ≤ 12) (hb : b.toInt = y) (hy : s1 ≤ y ∧ y ≤ 12) (hq : ∀ (M' : fmM) (c' : Int32) (v8 v9 v10 v11 v12 v13 : Option Value), loFr M0 M' → pvEv Tm 3 qX11_laysOption 237 [some (.ref 0), some (.int i), some (.int weeks), some (.long way), none, some (.int a), some (.int b), some (.int c'), v8, v9, v10, v11, v12, v13] [] M' Q) : ∀ (m : Nat) (M : fmM) (k : Nat) (c : Int32) (v8 v9 v10 v11 v12 v13 : Option Value), c.toInt = k → s2 ≤ k → k + m = 13 → loFr M0 M → pvEv Tm 3 qX11_laysOption 82 [some (.ref 0), some (.int i), some (.int weeks), some (.long way), none, some (.int a), some (.int b), some (.int c), v8, v9, v10, v11, v12, v13] [] M Q := by
  intro m
  induction m using Nat.strongRecOn with
  | _ m ih =>
    intro M k c v8 v9 v10 v11 v12 v13 hkk hs hm hW
    refine pv_iload (pc := 82) (i := 7) rfl (fm_dec dtX11_laysOption 48 rfl) ?_
    refine pv_bipush (pc := 84) (v := 12) (by decide) (fm_dec dtX11_laysOption 49 rfl) ?_
    refine pv_icmp_gt (pc := 86) 237 (by decide) (fm_dec dtX11_laysOption 50 rfl) (fun hc86 => ?_) (fun hc86 => ?_)
    · exact hq M c _ _ _ _ _ _ hW
    · have hk13 : k < 13 := (by rw [sc_lt] at hc86; have h9 : (12 : Int32).toInt = 12 := (by decide); omega)
      refine pv_iload (pc := 89) (i := 5) rfl (fm_dec dtX11_laysOption 51 rfl) ?_
      refine pv_iload (pc := 91) (i := 6) rfl (fm_dec dtX11_laysOption 52 rfl) ?_
      refine pv_iload (pc := 93) (i := 7) rfl (fm_dec dtX11_laysOption 53 rfl) ?_
      refine pv_iS3 (d' := 0) (pc := 95) pcs_X11_369 (Nat.le_of_ble_eq_true rfl) (by decide) (fm_dec dtX11_laysOption 54 rfl) ?_
      refine c_roomOf ha hb hkk hx.2 hy.2 (show k ≤ 12 by omega) (fun r95 h95 => ?_)
      refine pv_then1 ?_
      refine pv_istore (pc := 98) (i := 8) (by decide) rfl (fm_dec dtX11_laysOption 55 rfl) ?_
      dsimp only [List.set_cons_zero, List.set_cons_succ]
      refine pv_iload (pc := 100) (i := 5) rfl (fm_dec dtX11_laysOption 56 rfl) ?_
      refine pv_aloadn (pc := 102) (n := 0) 0 rfl rfl (fm_dec dtX11_laysOption 57 rfl) ?_
      refine pv_getR (k := 0) (j := 42) (ci := 11) (pc := 103) 13 rfl (by decide) pfl_X11_86 (by decide) rfl (by decide) (fm_dec dtX11_laysOption 58 rfl) ?_
      refine pv_iconst (pc := 106) (v := 0) (by decide) (fm_dec dtX11_laysOption 59 rfl) ?_
      refine pv_iald (k := 13) (n := 3) (pc := 107) (by decide) rfl rfl (fm_inl (by decide)) (fm_dec dtX11_laysOption 60 rfl) ?_
      refine pv_isub (pc := 108) (fm_dec dtX11_laysOption 61 rfl) ?_
      refine pv_iload (pc := 109) (i := 6) rfl (fm_dec dtX11_laysOption 62 rfl) ?_
      refine pv_aloadn (pc := 111) (n := 0) 0 rfl rfl (fm_dec dtX11_laysOption 63 rfl) ?_
      refine pv_getR (k := 0) (j := 42) (ci := 11) (pc := 112) 13 rfl (by decide) pfl_X11_86 (by decide) rfl (by decide) (fm_dec dtX11_laysOption 64 rfl) ?_
      refine pv_iconst (pc := 115) (v := 1) (by decide) (fm_dec dtX11_laysOption 65 rfl) ?_
      refine pv_iald (k := 13) (n := 3) (pc := 116) (by decide) rfl rfl (fm_inl (by decide)) (fm_dec dtX11_laysOption 66 rfl) ?_
      refine pv_isub (pc := 117) (fm_dec dtX11_laysOption 67 rfl) ?_
      refine pv_iload (pc := 118) (i := 7) rfl (fm_dec dtX11_laysOption 68 rfl) ?_
      refine pv_aloadn (pc := 120) (n := 0) 0 rfl rfl (fm_dec dtX11_laysOption 69 rfl) ?_
      refine pv_getR (k := 0) (j := 42) (ci := 11) (pc := 121) 13 rfl (by decide) pfl_X11_86 (by decide) rfl (by decide) (fm_dec dtX11_laysOption 70 rfl) ?_
      refine pv_iconst (pc := 124) (v := 2) (by decide) (fm_dec dtX11_laysOption 71 rfl) ?_
      refine pv_iald (k := 13) (n := 3) (pc := 125) (by decide) rfl rfl (fm_inl (by decide)) (fm_dec dtX11_laysOption 72 rfl) ?_
      refine pv_isub (pc := 126) (fm_dec dtX11_laysOption 73 rfl) ?_
      refine pv_iS3 (d' := 0) (pc := 127) pcs_X11_369 (Nat.le_of_ble_eq_true rfl) (by decide) (fm_dec dtX11_laysOption 74 rfl) ?_
      refine c_roomOf (sb_i ha (by rw [hW.1]; exact h0) hx.1 (by omega)) (sb_i hb (by rw [hW.1]; exact h1) hy.1 (by omega)) (sb_i hkk (by rw [hW.1]; exact h2) hs (by omega)) (by omega) (by omega) (by omega) (fun r130 h130 => ?_)
      refine pv_then1 ?_
      refine pv_istore (pc := 130) (i := 9) (by decide) rfl (fm_dec dtX11_laysOption 75 rfl) ?_
      dsimp only [List.set_cons_zero, List.set_cons_succ]
      refine pv_aloadn (pc := 132) (n := 0) 0 rfl rfl (fm_dec dtX11_laysOption 76 rfl) ?_
      refine pv_getR (k := 0) (j := 38) (ci := 11) (pc := 133) 9 rfl (by decide) pfl_X11_73 (by decide) rfl (by decide) (fm_dec dtX11_laysOption 77 rfl) ?_
      refine pv_iload (pc := 136) (i := 9) rfl (fm_dec dtX11_laysOption 78 rfl) ?_
      refine pv_lald (k := 9) (n := 2197) (pc := 138) (by decide) rfl rfl (ix_in h130 (by omega)) (fm_dec dtX11_laysOption 79 rfl) ?_
      refine pv_aloadn (pc := 139) (n := 0) 0 rfl rfl (fm_dec dtX11_laysOption 80 rfl) ?_
      refine pv_getJ (k := 0) (j := 43) (ci := 11) (pc := 140) pfl_X11_361 (by decide) rfl (by decide) (fm_dec dtX11_laysOption 81 rfl) ?_
      refine pv_ladd (pc := 143) (fm_dec dtX11_laysOption 82 rfl) ?_
      refine pv_lstore (pc := 144) (i := 10) (by decide) rfl (fm_dec dtX11_laysOption 83 rfl) ?_
      dsimp only [List.set_cons_zero, List.set_cons_succ]
      refine pv_aloadn (pc := 146) (n := 0) 0 rfl rfl (fm_dec dtX11_laysOption 84 rfl) ?_
      refine pv_getR (k := 0) (j := 39) (ci := 11) (pc := 147) 10 rfl (by decide) pfl_X11_77 (by decide) rfl (by decide) (fm_dec dtX11_laysOption 85 rfl) ?_
      refine pv_iload (pc := 150) (i := 9) rfl (fm_dec dtX11_laysOption 86 rfl) ?_
      refine pv_lald (k := 10) (n := 2197) (pc := 152) (by decide) rfl rfl (ix_in h130 (by omega)) (fm_dec dtX11_laysOption 87 rfl) ?_
      refine pv_lloadn (pc := 153) (n := 3) 3 rfl rfl (fm_dec dtX11_laysOption 88 rfl) ?_
      refine pv_ladd (pc := 154) (fm_dec dtX11_laysOption 89 rfl) ?_
      refine pv_lstore (pc := 155) (i := 12) (by decide) rfl (fm_dec dtX11_laysOption 90 rfl) ?_
      dsimp only [List.set_cons_zero, List.set_cons_succ]
      refine pv_aloadn (pc := 157) (n := 0) 0 rfl rfl (fm_dec dtX11_laysOption 91 rfl) ?_
      refine pv_getR (k := 0) (j := 40) (ci := 11) (pc := 158) 11 rfl (by decide) pfl_X11_80 (by decide) rfl (by decide) (fm_dec dtX11_laysOption 92 rfl) ?_
      refine pv_iload (pc := 161) (i := 8) rfl (fm_dec dtX11_laysOption 93 rfl) ?_
      refine pv_lald (k := 11) (n := 2197) (pc := 163) (by decide) rfl rfl (ix_in h95 (by omega)) (fm_dec dtX11_laysOption 94 rfl) ?_
      refine pv_ldc2 (pc := 164) pkc_X11_372 (fm_dec dtX11_laysOption 95 rfl) ?_
      refine pv_lcmp (pc := 167) (fm_dec dtX11_laysOption 96 rfl) ?_
      refine pv_if_eq (pc := 168) 213 (by decide) (fm_dec dtX11_laysOption 97 rfl) (fun hc168 => ?_) (fun hc168 => ?_)
      · refine pv_aloadn (pc := 213) (n := 0) 0 rfl rfl (fm_dec dtX11_laysOption 120 rfl) ?_
        refine pv_getR (k := 0) (j := 40) (ci := 11) (pc := 214) 11 rfl (by decide) pfl_X11_80 (by decide) rfl (by decide) (fm_dec dtX11_laysOption 121 rfl) ?_
        refine pv_iload (pc := 217) (i := 8) rfl (fm_dec dtX11_laysOption 122 rfl) ?_
        refine pv_lload (pc := 219) (i := 10) rfl (fm_dec dtX11_laysOption 123 rfl) ?_
        refine pv_last (k := 11) (n := 2197) (pc := 221) (by decide) rfl rfl (ix_in h95 (by omega)) (fm_dec dtX11_laysOption 124 rfl) ?_
        refine pv_aloadn (pc := 222) (n := 0) 0 rfl rfl (fm_dec dtX11_laysOption 125 rfl) ?_
        refine pv_getR (k := 0) (j := 41) (ci := 11) (pc := 223) 12 rfl (by decide) pfl_X11_83 (by decide) rfl (by decide) (fm_dec dtX11_laysOption 126 rfl) ?_
        refine pv_iload (pc := 226) (i := 8) rfl (fm_dec dtX11_laysOption 127 rfl) ?_
        refine pv_lload (pc := 228) (i := 12) rfl (fm_dec dtX11_laysOption 128 rfl) ?_
        refine pv_last (k := 12) (n := 2197) (pc := 230) (by decide) rfl rfl (ix_in h95 (by omega)) (fm_dec dtX11_laysOption 129 rfl) ?_
        refine pv_iincc (pc := 231) 7 1 (by decide) rfl (by decide) rfl (fm_dec dtX11_laysOption 130 rfl) ?_
        dsimp only [List.set_cons_zero, List.set_cons_succ]
        refine pv_goto (pc := 234) 82 (by decide) (fm_dec dtX11_laysOption 131 rfl) ?_
        exact ih (13 - (k + 1)) (by omega) _ (k + 1) _ _ _ _ _ _ _ (i32_p1 hkk (by omega)) (by omega) (by omega) (by first | exact hW | exact (hW.put (Or.inl rfl) (by rw [i32_cl h95]; omega)).put (Or.inr rfl) (by rw [i32_cl h95]; omega))
      · refine pv_lload (pc := 171) (i := 10) rfl (fm_dec dtX11_laysOption 98 rfl) ?_
        refine pv_aloadn (pc := 173) (n := 0) 0 rfl rfl (fm_dec dtX11_laysOption 99 rfl) ?_
        refine pv_getR (k := 0) (j := 40) (ci := 11) (pc := 174) 11 rfl (by decide) pfl_X11_80 (by decide) rfl (by decide) (fm_dec dtX11_laysOption 100 rfl) ?_
        refine pv_iload (pc := 177) (i := 8) rfl (fm_dec dtX11_laysOption 101 rfl) ?_
        refine pv_lald (k := 11) (n := 2197) (pc := 179) (by decide) rfl rfl (ix_in h95 (by omega)) (fm_dec dtX11_laysOption 102 rfl) ?_
        refine pv_lcmp (pc := 180) (fm_dec dtX11_laysOption 103 rfl) ?_
        refine pv_if_gt (pc := 181) 231 (by decide) (fm_dec dtX11_laysOption 104 rfl) (fun hc181 => ?_) (fun hc181 => ?_)
        · refine pv_iincc (pc := 231) 7 1 (by decide) rfl (by decide) rfl (fm_dec dtX11_laysOption 130 rfl) ?_
          dsimp only [List.set_cons_zero, List.set_cons_succ]
          refine pv_goto (pc := 234) 82 (by decide) (fm_dec dtX11_laysOption 131 rfl) ?_
          exact ih (13 - (k + 1)) (by omega) _ (k + 1) _ _ _ _ _ _ _ (i32_p1 hkk (by omega)) (by omega) (by omega) (by first | exact hW | exact (hW.put (Or.inl rfl) (by rw [i32_cl h95]; omega)).put (Or.inr rfl) (by rw [i32_cl h95]; omega))
        · refine pv_lload (pc := 184) (i := 10) rfl (fm_dec dtX11_laysOption 105 rfl) ?_
          refine pv_aloadn (pc := 186) (n := 0) 0 rfl rfl (fm_dec dtX11_laysOption 106 rfl) ?_
          refine pv_getR (k := 0) (j := 40) (ci := 11) (pc := 187) 11 rfl (by decide) pfl_X11_80 (by decide) rfl (by decide) (fm_dec dtX11_laysOption 107 rfl) ?_
          refine pv_iload (pc := 190) (i := 8) rfl (fm_dec dtX11_laysOption 108 rfl) ?_
          refine pv_lald (k := 11) (n := 2197) (pc := 192) (by decide) rfl rfl (ix_in h95 (by omega)) (fm_dec dtX11_laysOption 109 rfl) ?_
          refine pv_lcmp (pc := 193) (fm_dec dtX11_laysOption 110 rfl) ?_
          refine pv_if_ne (pc := 194) 213 (by decide) (fm_dec dtX11_laysOption 111 rfl) (fun hc194 => ?_) (fun hc194 => ?_)
          · refine pv_aloadn (pc := 213) (n := 0) 0 rfl rfl (fm_dec dtX11_laysOption 120 rfl) ?_
            refine pv_getR (k := 0) (j := 40) (ci := 11) (pc := 214) 11 rfl (by decide) pfl_X11_80 (by decide) rfl (by decide) (fm_dec dtX11_laysOption 121 rfl) ?_
            refine pv_iload (pc := 217) (i := 8) rfl (fm_dec dtX11_laysOption 122 rfl) ?_
            refine pv_lload (pc := 219) (i := 10) rfl (fm_dec dtX11_laysOption 123 rfl) ?_
            refine pv_last (k := 11) (n := 2197) (pc := 221) (by decide) rfl rfl (ix_in h95 (by omega)) (fm_dec dtX11_laysOption 124 rfl) ?_
            refine pv_aloadn (pc := 222) (n := 0) 0 rfl rfl (fm_dec dtX11_laysOption 125 rfl) ?_
            refine pv_getR (k := 0) (j := 41) (ci := 11) (pc := 223) 12 rfl (by decide) pfl_X11_83 (by decide) rfl (by decide) (fm_dec dtX11_laysOption 126 rfl) ?_
            refine pv_iload (pc := 226) (i := 8) rfl (fm_dec dtX11_laysOption 127 rfl) ?_
            refine pv_lload (pc := 228) (i := 12) rfl (fm_dec dtX11_laysOption 128 rfl) ?_
            refine pv_last (k := 12) (n := 2197) (pc := 230) (by decide) rfl rfl (ix_in h95 (by omega)) (fm_dec dtX11_laysOption 129 rfl) ?_
            refine pv_iincc (pc := 231) 7 1 (by decide) rfl (by decide) rfl (fm_dec dtX11_laysOption 130 rfl) ?_
            dsimp only [List.set_cons_zero, List.set_cons_succ]
            refine pv_goto (pc := 234) 82 (by decide) (fm_dec dtX11_laysOption 131 rfl) ?_
            exact ih (13 - (k + 1)) (by omega) _ (k + 1) _ _ _ _ _ _ _ (i32_p1 hkk (by omega)) (by omega) (by omega) (by first | exact hW | exact (hW.put (Or.inl rfl) (by rw [i32_cl h95]; omega)).put (Or.inr rfl) (by rw [i32_cl h95]; omega))
          · refine pv_lload (pc := 197) (i := 12) rfl (fm_dec dtX11_laysOption 112 rfl) ?_
            refine pv_aloadn (pc := 199) (n := 0) 0 rfl rfl (fm_dec dtX11_laysOption 113 rfl) ?_
            refine pv_getR (k := 0) (j := 41) (ci := 11) (pc := 200) 12 rfl (by decide) pfl_X11_83 (by decide) rfl (by decide) (fm_dec dtX11_laysOption 114 rfl) ?_
            refine pv_iload (pc := 203) (i := 8) rfl (fm_dec dtX11_laysOption 115 rfl) ?_
            refine pv_lald (k := 12) (n := 2197) (pc := 205) (by decide) rfl rfl (ix_in h95 (by omega)) (fm_dec dtX11_laysOption 116 rfl) ?_
            refine pv_lcmp (pc := 206) (fm_dec dtX11_laysOption 117 rfl) ?_
            refine pv_if_lt (pc := 207) 213 (by decide) (fm_dec dtX11_laysOption 118 rfl) (fun hc207 => ?_) (fun hc207 => ?_)
            · refine pv_aloadn (pc := 213) (n := 0) 0 rfl rfl (fm_dec dtX11_laysOption 120 rfl) ?_
              refine pv_getR (k := 0) (j := 40) (ci := 11) (pc := 214) 11 rfl (by decide) pfl_X11_80 (by decide) rfl (by decide) (fm_dec dtX11_laysOption 121 rfl) ?_
              refine pv_iload (pc := 217) (i := 8) rfl (fm_dec dtX11_laysOption 122 rfl) ?_
              refine pv_lload (pc := 219) (i := 10) rfl (fm_dec dtX11_laysOption 123 rfl) ?_
              refine pv_last (k := 11) (n := 2197) (pc := 221) (by decide) rfl rfl (ix_in h95 (by omega)) (fm_dec dtX11_laysOption 124 rfl) ?_
              refine pv_aloadn (pc := 222) (n := 0) 0 rfl rfl (fm_dec dtX11_laysOption 125 rfl) ?_
              refine pv_getR (k := 0) (j := 41) (ci := 11) (pc := 223) 12 rfl (by decide) pfl_X11_83 (by decide) rfl (by decide) (fm_dec dtX11_laysOption 126 rfl) ?_
              refine pv_iload (pc := 226) (i := 8) rfl (fm_dec dtX11_laysOption 127 rfl) ?_
              refine pv_lload (pc := 228) (i := 12) rfl (fm_dec dtX11_laysOption 128 rfl) ?_
              refine pv_last (k := 12) (n := 2197) (pc := 230) (by decide) rfl rfl (ix_in h95 (by omega)) (fm_dec dtX11_laysOption 129 rfl) ?_
              refine pv_iincc (pc := 231) 7 1 (by decide) rfl (by decide) rfl (fm_dec dtX11_laysOption 130 rfl) ?_
              dsimp only [List.set_cons_zero, List.set_cons_succ]
              refine pv_goto (pc := 234) 82 (by decide) (fm_dec dtX11_laysOption 131 rfl) ?_
              exact ih (13 - (k + 1)) (by omega) _ (k + 1) _ _ _ _ _ _ _ (i32_p1 hkk (by omega)) (by omega) (by omega) (by first | exact hW | exact (hW.put (Or.inl rfl) (by rw [i32_cl h95]; omega)).put (Or.inr rfl) (by rw [i32_cl h95]; omega))
            · refine pv_goto (pc := 210) 231 (by decide) (fm_dec dtX11_laysOption 119 rfl) ?_
              refine pv_iincc (pc := 231) 7 1 (by decide) rfl (by decide) rfl (fm_dec dtX11_laysOption 130 rfl) ?_
              dsimp only [List.set_cons_zero, List.set_cons_succ]
              refine pv_goto (pc := 234) 82 (by decide) (fm_dec dtX11_laysOption 131 rfl) ?_
              exact ih (13 - (k + 1)) (by omega) _ (k + 1) _ _ _ _ _ _ _ (i32_p1 hkk (by omega)) (by omega) (by omega) (by first | exact hW | exact (hW.put (Or.inl rfl) (by rw [i32_cl h95]; omega)).put (Or.inr rfl) (by rw [i32_cl h95]; omega))
set_option maxRecDepth 20000 in
theorem lo_2 {Q : fmR → fmM → Prop} {M0 : fmM} {i weeks : Int32} {way : Int64} {a : Int32} {s0 s1 s2 x : Nat} (h0 : (M0.1 13 0).toInt = s0) (h1 : (M0.1 13 1).toInt = s1) (h2 : (M0.1 13 2).toInt = s2) (b2 : s2 ≤ 9) (ha : a.toInt = x) (hx : s0 ≤ x ∧ x ≤ 12) (hq : ∀ (M' : fmM) (b' : Int32) (v7 v8 v9 v10 v11 v12 v13 : Option Value), loFr M0 M' → pvEv Tm 3 qX11_laysOption 243 [some (.ref 0), some (.int i), some (.int weeks), some (.long way), none, some (.int a), some (.int b'), v7, v8, v9, v10, v11, v12, v13] [] M' Q) : ∀ (m : Nat) (M : fmM) (k : Nat) (b : Int32) (v7 v8 v9 v10 v11 v12 v13 : Option Value), b.toInt = k → s1 ≤ k → k + m = 13 → loFr M0 M → pvEv Tm 3 qX11_laysOption 67 [some (.ref 0), some (.int i), some (.int weeks), some (.long way), none, some (.int a), some (.int b), v7, v8, v9, v10, v11, v12, v13] [] M Q := by
  intro m
  induction m using Nat.strongRecOn with
  | _ m ih =>
    intro M k b v7 v8 v9 v10 v11 v12 v13 hkk hs hm hW
    refine pv_iload (pc := 67) (i := 6) rfl (fm_dec dtX11_laysOption 40 rfl) ?_
    refine pv_bipush (pc := 69) (v := 12) (by decide) (fm_dec dtX11_laysOption 41 rfl) ?_
    refine pv_icmp_gt (pc := 71) 243 (by decide) (fm_dec dtX11_laysOption 42 rfl) (fun hc71 => ?_) (fun hc71 => ?_)
    · exact hq M b _ _ _ _ _ _ _ hW
    · have hk13 : k < 13 := (by rw [sc_lt] at hc71; have h9 : (12 : Int32).toInt = 12 := (by decide); omega)
      refine pv_aloadn (pc := 74) (n := 0) 0 rfl rfl (fm_dec dtX11_laysOption 43 rfl) ?_
      refine pv_getR (k := 0) (j := 42) (ci := 11) (pc := 75) 13 rfl (by decide) pfl_X11_86 (by decide) rfl (by decide) (fm_dec dtX11_laysOption 44 rfl) ?_
      refine pv_iconst (pc := 78) (v := 2) (by decide) (fm_dec dtX11_laysOption 45 rfl) ?_
      refine pv_iald (k := 13) (n := 3) (pc := 79) (by decide) rfl rfl (fm_inl (by decide)) (fm_dec dtX11_laysOption 46 rfl) ?_
      refine pv_istore (pc := 80) (i := 7) (by decide) rfl (fm_dec dtX11_laysOption 47 rfl) ?_
      dsimp only [List.set_cons_zero, List.set_cons_succ]
      refine lo_3 h0 h1 h2 ha hx hkk ⟨hs, by omega⟩ (fun M3 c3 w8 w9 w10 w11 w12 w13 hW3 => ?_) (13 - s2) _ s2 _ _ _ _ _ _ _ (by rw [hW.1]; exact h2) (Nat.le_refl _) (by omega) hW
      refine pv_iincc (pc := 237) 6 1 (by decide) rfl (by decide) rfl (fm_dec dtX11_laysOption 132 rfl) ?_
      dsimp only [List.set_cons_zero, List.set_cons_succ]
      refine pv_goto (pc := 240) 67 (by decide) (fm_dec dtX11_laysOption 133 rfl) ?_
      exact ih (13 - (k + 1)) (by omega) _ (k + 1) _ _ _ _ _ _ _ _ (i32_p1 hkk (by omega)) (by omega) (by omega) hW3
set_option maxRecDepth 20000 in
theorem lo_1 {Q : fmR → fmM → Prop} {M0 : fmM} {i weeks : Int32} {way : Int64} {s0 s1 s2 : Nat} (h0 : (M0.1 13 0).toInt = s0) (h1 : (M0.1 13 1).toInt = s1) (h2 : (M0.1 13 2).toInt = s2) (b1 : s1 ≤ 9) (b2 : s2 ≤ 9) (hq : ∀ M' : fmM, loFr M0 M' → Q (.inl none) M') : ∀ (m : Nat) (M : fmM) (k : Nat) (a : Int32) (v6 v7 v8 v9 v10 v11 v12 v13 : Option Value), a.toInt = k → s0 ≤ k → k + m = 13 → loFr M0 M → pvEv Tm 3 qX11_laysOption 52 [some (.ref 0), some (.int i), some (.int weeks), some (.long way), none, some (.int a), v6, v7, v8, v9, v10, v11, v12, v13] [] M Q := by
  intro m
  induction m using Nat.strongRecOn with
  | _ m ih =>
    intro M k a v6 v7 v8 v9 v10 v11 v12 v13 hkk hs hm hW
    refine pv_iload (pc := 52) (i := 5) rfl (fm_dec dtX11_laysOption 32 rfl) ?_
    refine pv_bipush (pc := 54) (v := 12) (by decide) (fm_dec dtX11_laysOption 33 rfl) ?_
    refine pv_icmp_gt (pc := 56) 249 (by decide) (fm_dec dtX11_laysOption 34 rfl) (fun hc56 => ?_) (fun hc56 => ?_)
    · exact pv_return (pc := 249) rfl (fm_dec dtX11_laysOption 136 rfl) (hq M hW)
    · have hk13 : k < 13 := (by rw [sc_lt] at hc56; have h9 : (12 : Int32).toInt = 12 := (by decide); omega)
      refine pv_aloadn (pc := 59) (n := 0) 0 rfl rfl (fm_dec dtX11_laysOption 35 rfl) ?_
      refine pv_getR (k := 0) (j := 42) (ci := 11) (pc := 60) 13 rfl (by decide) pfl_X11_86 (by decide) rfl (by decide) (fm_dec dtX11_laysOption 36 rfl) ?_
      refine pv_iconst (pc := 63) (v := 1) (by decide) (fm_dec dtX11_laysOption 37 rfl) ?_
      refine pv_iald (k := 13) (n := 3) (pc := 64) (by decide) rfl rfl (fm_inl (by decide)) (fm_dec dtX11_laysOption 38 rfl) ?_
      refine pv_istore (pc := 65) (i := 6) (by decide) rfl (fm_dec dtX11_laysOption 39 rfl) ?_
      dsimp only [List.set_cons_zero, List.set_cons_succ]
      refine lo_2 h0 h1 h2 b2 hkk ⟨hs, by omega⟩ (fun M3 c3 w7 w8 w9 w10 w11 w12 w13 hW3 => ?_) (13 - s1) _ s1 _ _ _ _ _ _ _ _ (by rw [hW.1]; exact h1) (Nat.le_refl _) (by omega) hW
      refine pv_iincc (pc := 243) 5 1 (by decide) rfl (by decide) rfl (fm_dec dtX11_laysOption 134 rfl) ?_
      dsimp only [List.set_cons_zero, List.set_cons_succ]
      refine pv_goto (pc := 246) 52 (by decide) (fm_dec dtX11_laysOption 135 rfl) ?_
      exact ih (13 - (k + 1)) (by omega) _ (k + 1) _ _ _ _ _ _ _ _ _ (i32_p1 hkk (by omega)) (by omega) (by omega) hW3
set_option maxRecDepth 20000 in
theorem lo_0 {Q : fmR → fmM → Prop} {M : fmM} {i weeks : Int32} (hq : ∀ (way : Int64) (kk' : Int32) (v6 v7 v8 v9 v10 v11 v12 v13 : Option Value), pvEv Tm 3 qX11_laysOption 44 [some (.ref 0), some (.int i), some (.int weeks), some (.long way), none, some (.int kk'), v6, v7, v8, v9, v10, v11, v12, v13] [] M Q) : ∀ (m : Nat) (k : Nat) (kk : Int32) (way : Int64) (v6 v7 v8 v9 v10 v11 v12 v13 : Option Value), kk.toInt = k → k + m = 3 → pvEv Tm 3 qX11_laysOption 5 [some (.ref 0), some (.int i), some (.int weeks), some (.long way), none, some (.int kk), v6, v7, v8, v9, v10, v11, v12, v13] [] M Q := by
  intro m
  induction m using Nat.strongRecOn with
  | _ m ih =>
    intro k kk way v6 v7 v8 v9 v10 v11 v12 v13 hkk hm
    refine pv_iload (pc := 5) (i := 5) rfl (fm_dec dtX11_laysOption 4 rfl) ?_
    refine pv_iconst (pc := 7) (v := 3) (by decide) (fm_dec dtX11_laysOption 5 rfl) ?_
    refine pv_icmp_ge (pc := 8) 44 (by decide) (fm_dec dtX11_laysOption 6 rfl) (fun hc8 => ?_) (fun hc8 => ?_)
    · exact hq way kk _ _ _ _ _ _ _ _
    · have hk3 : k < 3 := (by rw [sc_le] at hc8; have h9 : (3 : Int32).toInt = 3 := (by decide); omega)
      refine pv_lloadn (pc := 11) (n := 3) 3 rfl rfl (fm_dec dtX11_laysOption 7 rfl) ?_
      refine pv_iloadn (pc := 12) (n := 2) 2 rfl rfl (fm_dec dtX11_laysOption 8 rfl) ?_
      refine pv_iload (pc := 13) (i := 5) rfl (fm_dec dtX11_laysOption 9 rfl) ?_
      refine pv_iS2 (d' := 0) (pc := 15) pcs_X11_256 (Nat.le_of_ble_eq_true rfl) (by decide) (fm_dec dtX11_laysOption 10 rfl) ?_
      refine c_has (fun h15 => ?_) (fun h15 => ?_)
      · refine pv_then1 ?_
        refine pv_if_eq (pc := 18) 35 (by decide) (fm_dec dtX11_laysOption 11 rfl) (fun hc18 => by exfalso; revert hc18; decide) (fun _ => ?_)
        refine pv_lconst (pc := 21) (v := 1) (by decide) (fm_dec dtX11_laysOption 12 rfl) ?_
        refine pv_bipush (pc := 22) (v := 8) (by decide) (fm_dec dtX11_laysOption 13 rfl) ?_
        refine pv_iconst (pc := 24) (v := 2) (by decide) (fm_dec dtX11_laysOption 14 rfl) ?_
        refine pv_iload (pc := 25) (i := 5) rfl (fm_dec dtX11_laysOption 15 rfl) ?_
        refine pv_isub (pc := 27) (fm_dec dtX11_laysOption 16 rfl) ?_
        refine pv_imul (pc := 28) (fm_dec dtX11_laysOption 17 rfl) ?_
        refine pv_iloadn (pc := 29) (n := 1) 1 rfl rfl (fm_dec dtX11_laysOption 18 rfl) ?_
        refine pv_iadd (pc := 30) (fm_dec dtX11_laysOption 19 rfl) ?_
        refine pv_lshl (pc := 31) (fm_dec dtX11_laysOption 20 rfl) ?_
        refine pv_goto (pc := 32) 36 (by decide) (fm_dec dtX11_laysOption 21 rfl) ?_
        refine pv_ladd (pc := 36) (fm_dec dtX11_laysOption 23 rfl) ?_
        refine pv_lstoren (pc := 37) (n := 3) 3 rfl (by decide) rfl (fm_dec dtX11_laysOption 24 rfl) ?_
        dsimp only [List.set_cons_zero, List.set_cons_succ]
        refine pv_iincc (pc := 38) 5 1 (by decide) rfl (by decide) rfl (fm_dec dtX11_laysOption 25 rfl) ?_
        dsimp only [List.set_cons_zero, List.set_cons_succ]
        refine pv_goto (pc := 41) 5 (by decide) (fm_dec dtX11_laysOption 26 rfl) ?_
        exact ih (3 - (k + 1)) (by omega) (k + 1) _ _ _ _ _ _ _ _ _ _ (i32_p1 hkk (by omega)) (by omega)
      · refine pv_then1 ?_
        refine pv_if_eq (pc := 18) 35 (by decide) (fm_dec dtX11_laysOption 11 rfl) (fun _ => ?_) (fun hc18 => by exfalso; revert hc18; decide)
        refine pv_lconst (pc := 35) (v := 0) (by decide) (fm_dec dtX11_laysOption 22 rfl) ?_
        refine pv_ladd (pc := 36) (fm_dec dtX11_laysOption 23 rfl) ?_
        refine pv_lstoren (pc := 37) (n := 3) 3 rfl (by decide) rfl (fm_dec dtX11_laysOption 24 rfl) ?_
        dsimp only [List.set_cons_zero, List.set_cons_succ]
        refine pv_iincc (pc := 38) 5 1 (by decide) rfl (by decide) rfl (fm_dec dtX11_laysOption 25 rfl) ?_
        dsimp only [List.set_cons_zero, List.set_cons_succ]
        refine pv_goto (pc := 41) 5 (by decide) (fm_dec dtX11_laysOption 26 rfl) ?_
        exact ih (3 - (k + 1)) (by omega) (k + 1) _ _ _ _ _ _ _ _ _ _ (i32_p1 hkk (by omega)) (by omega)
set_option maxRecDepth 20000 in
theorem c_laysOption {M : fmM} {Q : fmR → fmM → Prop} {i weeks : Int32} {s0 s1 s2 : Nat} (h0 : (M.1 13 0).toInt = s0) (h1 : (M.1 13 1).toInt = s1) (h2 : (M.1 13 2).toInt = s2) (b0 : s0 ≤ 9) (b1 : s1 ≤ 9) (b2 : s2 ≤ 9) (hq : ∀ M' : fmM, loFr M M' → Q (.inl none) M') : pvGood Tm 3 qX11_laysOption [.ref 0, .int i, .int weeks] M Q := by
  refine pvGood_of (Nat.le_of_ble_eq_true rfl) ?_
  show pvEv Tm 3 qX11_laysOption 0 [some (.ref 0), some (.int i), some (.int weeks), none, none, none, none, none, none, none, none, none, none, none] [] M Q
  refine pv_lconst (pc := 0) (v := 0) (by decide) (fm_dec dtX11_laysOption 0 rfl) ?_
  refine pv_lstoren (pc := 1) (n := 3) 3 rfl (by decide) rfl (fm_dec dtX11_laysOption 1 rfl) ?_
  dsimp only [List.set_cons_zero, List.set_cons_succ]
  refine pv_iconst (pc := 2) (v := 0) (by decide) (fm_dec dtX11_laysOption 2 rfl) ?_
  refine pv_istore (pc := 3) (i := 5) (by decide) rfl (fm_dec dtX11_laysOption 3 rfl) ?_
  dsimp only [List.set_cons_zero, List.set_cons_succ]
  refine lo_0 (fun way kk w6 w7 w8 w9 w10 w11 w12 w13 => ?_) 3 0 0 0 _ _ _ _ _ _ _ _ (by decide) (by decide)
  refine pv_aloadn (pc := 44) (n := 0) 0 rfl rfl (fm_dec dtX11_laysOption 27 rfl) ?_
  refine pv_getR (k := 0) (j := 42) (ci := 11) (pc := 45) 13 rfl (by decide) pfl_X11_86 (by decide) rfl (by decide) (fm_dec dtX11_laysOption 28 rfl) ?_
  refine pv_iconst (pc := 48) (v := 0) (by decide) (fm_dec dtX11_laysOption 29 rfl) ?_
  refine pv_iald (k := 13) (n := 3) (pc := 49) (by decide) rfl rfl (fm_inl (by decide)) (fm_dec dtX11_laysOption 30 rfl) ?_
  refine pv_istore (pc := 50) (i := 5) (by decide) rfl (fm_dec dtX11_laysOption 31 rfl) ?_
  dsimp only [List.set_cons_zero, List.set_cons_succ]
  exact lo_1 h0 h1 h2 b1 b2 hq (13 - s0) M s0 _ _ _ _ _ _ _ _ _ h0 (Nat.le_refl _) (by omega) ⟨rfl, fun _ _ _ => rfl⟩
theorem hh_hand_laysOption : scH Tm invM cc_hand_laysOption := by
  intro M σ as hE hS hF hI
  obtain ⟨r, st1, hr, e1, q1⟩ := scSk_r hS
  obtain ⟨i, st2, e2, hi, q2⟩ := scSk_i q1
  obtain ⟨w, st3, e3, hw, q3⟩ := scSk_i q2
  have e5 := scSk_0 q3
  have er : r = 0 := by simpa using hr
  subst er
  subst e5
  subst e3
  subst e2
  subst e1
  have hb : ∀ j, j < 3 → 0 ≤ (M.1 13 j).toInt ∧ (M.1 13 j).toInt ≤ 9 := fun j hj => hI.1 13 j hj
  have g0 := hb 0 (by decide)
  have g1 := hb 1 (by decide)
  have g2 := hb 2 (by decide)
  refine c_laysOption (s0 := (M.1 13 0).toInt.toNat) (s1 := (M.1 13 1).toInt.toNat) (s2 := (M.1 13 2).toInt.toNat) (by omega) (by omega) (by omega) (by omega) (by omega) (by omega) (fun M' f => ⟨⟨_, List.mem_cons_self, rfl, fun q hq => (by cases hq), fun q hq => (by cases hq)⟩, ⟨fun k j hj => (by rw [f.1]; exact hI.1 k j hj), (by rw [f.1]; exact hI.2)⟩, fun k j hk => ⟨by rw [f.1], f.2 k j (fun h => ?_)⟩⟩)
  have h9 : scIn [(11, 0, 2197), (12, 0, 2197)] k j = true := by
    simp only [scIn, List.any_cons, List.any_nil, Bool.or_false, Bool.or_eq_true, Bool.and_eq_true, beq_iff_eq, Nat.ble_eq, Nat.blt_eq]
    omega
  have hk9 : scIn [(11, 0, 2197), (12, 0, 2197)] k j = false := hk
  rw [h9] at hk9
  cases hk9
-- THE REFERENCE: pictures of the whole
theorem rw_kept : rwOk 26 519 239 3 := ⟨by decide, rfl, rfl, by decide +kernel⟩
/-- where a picture's place comes from -/
def sl (s : Nat) : Nat × Nat := if s = 0 then (0, 32) else if s < 15 then (7, s - 1) else (503 + (s - 15) / 14, (s - 15) % 14)
theorem sl_lt : ∀ s, s < 239 → (sl s).1 < 519 ∧ ¬ ((sl s).1 = 0 ∧ (sl s).2 = 35) := by decide +kernel
def slI (q j : Nat) : Nat := if q = 0 then 0 else if q = 7 then 1 + j else 15 + 14 * (q - 503) + j
theorem slI_ok : ∀ s, s < 239 → slI (sl s).1 (sl s).2 = s := by decide +kernel
theorem sl_inj : ∀ s, s < 239 → ∀ t, t < s → ¬ ((sl t).1 = (sl s).1 ∧ (sl t).2 = (sl s).2) := fun s hs t ht h => by
  have e1 := slI_ok s hs
  have e2 := slI_ok t (by omega)
  rw [h.1, h.2, e1] at e2
  omega
theorem sl_7 {k : Nat} (h : k < 14) : sl (1 + k) = (7, k) := by
  unfold sl
  rw [if_neg (by omega), if_pos (by omega), show 1 + k - 1 = k by omega]
theorem sl_b {w k : Nat} (h : k < 14) : sl (15 + 14 * w + k) = (503 + w, k) := by
  unfold sl
  rw [if_neg (by omega), if_neg (by omega), show (15 + 14 * w + k - 15) / 14 = w by omega, show (15 + 14 * w + k - 15) % 14 = k by omega]
def pa0 (M0 : fmM) (i s : Nat) (M : fmM) : Prop := (∀ t, t < s → M.1 (519 + i) t = M0.1 (sl t).1 (sl t).2) ∧ (∀ q j, ¬ (q = 519 + i ∧ j < s) → ¬ (q = 0 ∧ j = 35) → M.1 q j = M0.1 q j) ∧ (M.1 0 35).toInt = s ∧ M.2 = M0.2
def pa1 (M0 : fmM) (i s : Nat) (M : fmM) : Prop := (∀ t, t < s → M.1 (sl t).1 (sl t).2 = M0.1 (519 + i) t) ∧ (∀ q j, (∀ t, t < s → ¬ ((sl t).1 = q ∧ (sl t).2 = j)) → ¬ (q = 0 ∧ j = 35) → M.1 q j = M0.1 q j) ∧ (M.1 0 35).toInt = s ∧ M.2 = M0.2
theorem pa0.nil {M : fmM} {i : Nat} : pa0 M i 0 (fmI M 0 35 0) := ⟨fun t h => by omega, fun q j _ h => by rw [fmI_at, if_neg h], rfl, rfl⟩
theorem pa1.nil {M : fmM} {i : Nat} : pa1 M i 0 (fmI M 0 35 0) := ⟨fun t h => by omega, fun q j _ h => by rw [fmI_at, if_neg h], rfl, rfl⟩
theorem pa0.step {M0 M : fmM} {i s q j : Nat} (h : pa0 M0 i s M) (hs : s < 239) (hsl : sl s = (q, j)) : pa0 M0 i (s + 1) (fmI (fmI (fmI M (519 + i) s (M.1 q j)) 0 35 (M.1 0 35 + 1)) q j (M.1 q j)) := by
  have g := sl_lt s hs
  rw [hsl] at g
  have g1 : q < 519 := g.1
  have g2 : ¬ (q = 0 ∧ j = 35) := g.2
  have gv : M.1 q j = M0.1 q j := h.2.1 q j (by omega) g2
  refine ⟨fun t ht => ?_, fun q' j' a b => ?_, ?_, h.2.2.2⟩
  · rw [fmI_at, if_neg (by omega), fmI_at, if_neg (by omega), fmI_at]
    by_cases e : t = s
    · subst e
      rw [if_pos ⟨rfl, rfl⟩, hsl]
      exact gv
    · rw [if_neg (by omega)]
      exact h.1 t (by omega)
  · rw [fmI_at]
    by_cases e : q' = q ∧ j' = j
    · rw [if_pos e, e.1, e.2]
      exact gv
    · rw [if_neg e, fmI_at, if_neg b, fmI_at, if_neg (by omega)]
      exact h.2.1 q' j' (by omega) b
  · rw [fmI_at, if_neg (by omega), fmI_s]
    exact i32_p1 h.2.2.1 (by omega)
theorem pa1.step {M0 M : fmM} {i s q j : Nat} (h : pa1 M0 i s M) (hs : s < 239) (hsl : sl s = (q, j)) : pa1 M0 i (s + 1) (fmI (fmI M 0 35 (M.1 0 35 + 1)) q j (M.1 (519 + i) s)) := by
  have g := sl_lt s hs
  have gi := sl_inj s hs
  rw [hsl] at g gi
  have g1 : q < 519 := g.1
  have g2 : ¬ (q = 0 ∧ j = 35) := g.2
  have gi : ∀ t, t < s → ¬ ((sl t).1 = q ∧ (sl t).2 = j) := gi
  have gv : M.1 (519 + i) s = M0.1 (519 + i) s := h.2.1 _ _ (fun t ht e => by have := (sl_lt t (by omega)).1; omega) (by omega)
  refine ⟨fun t ht => ?_, fun q' j' a b => ?_, ?_, h.2.2.2⟩
  · by_cases e : t = s
    · subst e
      rw [hsl, fmI_s]
      exact gv
    · rw [fmI_at, if_neg (gi t (by omega)), fmI_at, if_neg (sl_lt t (by omega)).2]
      exact h.1 t (by omega)
  · have a1 : ¬ (q' = q ∧ j' = j) := fun e => a s (by omega) (by rw [hsl]; exact ⟨e.1.symm, e.2.symm⟩)
    rw [fmI_at, if_neg a1, fmI_at, if_neg b]
    exact h.2.1 q' j' (fun t ht => a t (by omega)) b
  · rw [fmI_at, if_neg (by omega), fmI_s]
    exact i32_p1 h.2.2.1 (by omega)
theorem p1m1 {x : Int32} {s : Nat} (h : x.toInt = s) (hs : s < 239) : (x + 1 - 1).toInt = s := by
  rw [Int32.toInt_sub, i32_p1 h (by omega), show (1 : Int32).toInt = 1 by decide]
  exact (Int.bmod_eq_of_le (by omega) (by omega)).trans (by omega)
theorem pu0 {M : fmM} {K s : Nat} {v : Int32} (hK : K ≠ 0) (hs : (M.1 0 35).toInt = s) (hs9 : s < 239) : ((fmI (fmI M K (M.1 0 35).toNatClampNeg v) 0 35 ((fmI M K (M.1 0 35).toNatClampNeg v).1 0 35 + 1)).1 0 35 - 1).toInt = s ∧ fmI (fmI M K (M.1 0 35).toNatClampNeg v) 0 35 ((fmI M K (M.1 0 35).toNatClampNeg v).1 0 35 + 1) = fmI (fmI M K s v) 0 35 (M.1 0 35 + 1) := by
  have e : (fmI M K (M.1 0 35).toNatClampNeg v).1 0 35 = M.1 0 35 := by rw [fmI_k _ _ (fun e => hK e.symm)]
  rw [fmI_s, e, i32_cl hs]
  exact ⟨p1m1 hs hs9, rfl⟩
set_option maxRecDepth 20000 in
theorem c_puts0 {M : fmM} {Q : fmR → fmM → Prop} {v : Int32} {i s : Nat} (hi : i < 3) (hs : (M.1 0 35).toInt = s) (hs9 : s < 239) (hq : Q (.inl (some (.int v))) (fmI (fmI M (519 + i) s v) 0 35 (M.1 0 35 + 1))) : pvGood Tm 0 qX11_puts [.ref 0, .ref (519 + i), .int v, .int 0] M Q := by
  refine pvGood_of (Nat.le_of_ble_eq_true rfl) ?_
  show pvEv Tm 0 qX11_puts 0 [some (.ref 0), some (.ref (519 + i)), some (.int v), some (.int 0)] [] M Q
  refine pv_iloadn (pc := 0) (n := 3) 3 rfl rfl (fm_dec dtX11_puts 0 rfl) ?_
  refine pv_if_ne (pc := 1) 11 (by decide) (fm_dec dtX11_puts 1 rfl) (fun hc1 => by exfalso; revert hc1; decide) (fun _ => ?_)
  refine pv_aloadn (pc := 4) (n := 1) 1 rfl rfl (fm_dec dtX11_puts 2 rfl) ?_
  refine pv_aloadn (pc := 5) (n := 0) 0 rfl rfl (fm_dec dtX11_puts 3 rfl) ?_
  refine pv_getI (k := 0) (j := 35) (ci := 11) (pc := 6) pfl_X11_436 (by decide) rfl (by decide) (fm_dec dtX11_puts 4 rfl) ?_
  refine pv_iloadn (pc := 9) (n := 2) 2 rfl rfl (fm_dec dtX11_puts 5 rfl) ?_
  refine pv_iast (k := (519 + i)) (n := 239) (pc := 10) (rw_kept.2.2.2 i hi).2.2.1 (rw_kept.2.2.2 i hi).2.2.2.1 (rw_kept.2.2.2 i hi).2.2.2.2 (ix_in hs hs9) (fm_dec dtX11_puts 6 rfl) ?_
  refine pv_aloadn (pc := 11) (n := 0) 0 rfl rfl (fm_dec dtX11_puts 7 rfl) ?_
  refine pv_dup (pc := 12) rfl (fm_dec dtX11_puts 8 rfl) ?_
  refine pv_getI (k := 0) (j := 35) (ci := 11) (pc := 13) pfl_X11_436 (by decide) rfl (by decide) (fm_dec dtX11_puts 9 rfl) ?_
  refine pv_iconst (pc := 16) (v := 1) (by decide) (fm_dec dtX11_puts 10 rfl) ?_
  refine pv_iadd (pc := 17) (fm_dec dtX11_puts 11 rfl) ?_
  refine pv_putI (k := 0) (j := 35) (ci := 11) (pc := 18) pfl_X11_436 (by decide) rfl (by decide) (fm_dec dtX11_puts 12 rfl) ?_
  refine pv_aloadn (pc := 21) (n := 1) 1 rfl rfl (fm_dec dtX11_puts 13 rfl) ?_
  refine pv_aloadn (pc := 22) (n := 0) 0 rfl rfl (fm_dec dtX11_puts 14 rfl) ?_
  refine pv_getI (k := 0) (j := 35) (ci := 11) (pc := 23) pfl_X11_436 (by decide) rfl (by decide) (fm_dec dtX11_puts 15 rfl) ?_
  refine pv_iconst (pc := 26) (v := 1) (by decide) (fm_dec dtX11_puts 16 rfl) ?_
  refine pv_isub (pc := 27) (fm_dec dtX11_puts 17 rfl) ?_
  refine pv_iald (k := (519 + i)) (n := 239) (pc := 28) (rw_kept.2.2.2 i hi).2.2.1 (rw_kept.2.2.2 i hi).2.2.2.1 (rw_kept.2.2.2 i hi).2.2.2.2 (ix_in (pu0 (K := 519 + i) (v := v) (by omega) hs hs9).1 hs9) (fm_dec dtX11_puts 18 rfl) ?_
  exact pv_ireturn (pc := 29) rfl (fm_dec dtX11_puts 19 rfl) (by have h9 := pu0 (K := 519 + i) (v := v) (by omega) hs hs9; rw [i32_cl h9.1, h9.2, fmI_k _ _ (by omega), fmI_s]; exact hq)
set_option maxRecDepth 20000 in
theorem c_puts1 {M : fmM} {Q : fmR → fmM → Prop} {v : Int32} {i s : Nat} (hi : i < 3) (hs : (M.1 0 35).toInt = s) (hs9 : s < 239) (hq : Q (.inl (some (.int (M.1 (519 + i) s)))) (fmI M 0 35 (M.1 0 35 + 1))) : pvGood Tm 0 qX11_puts [.ref 0, .ref (519 + i), .int v, .int 1] M Q := by
  refine pvGood_of (Nat.le_of_ble_eq_true rfl) ?_
  show pvEv Tm 0 qX11_puts 0 [some (.ref 0), some (.ref (519 + i)), some (.int v), some (.int 1)] [] M Q
  refine pv_iloadn (pc := 0) (n := 3) 3 rfl rfl (fm_dec dtX11_puts 0 rfl) ?_
  refine pv_if_ne (pc := 1) 11 (by decide) (fm_dec dtX11_puts 1 rfl) (fun _ => ?_) (fun hc1 => by exfalso; revert hc1; decide)
  refine pv_aloadn (pc := 11) (n := 0) 0 rfl rfl (fm_dec dtX11_puts 7 rfl) ?_
  refine pv_dup (pc := 12) rfl (fm_dec dtX11_puts 8 rfl) ?_
  refine pv_getI (k := 0) (j := 35) (ci := 11) (pc := 13) pfl_X11_436 (by decide) rfl (by decide) (fm_dec dtX11_puts 9 rfl) ?_
  refine pv_iconst (pc := 16) (v := 1) (by decide) (fm_dec dtX11_puts 10 rfl) ?_
  refine pv_iadd (pc := 17) (fm_dec dtX11_puts 11 rfl) ?_
  refine pv_putI (k := 0) (j := 35) (ci := 11) (pc := 18) pfl_X11_436 (by decide) rfl (by decide) (fm_dec dtX11_puts 12 rfl) ?_
  refine pv_aloadn (pc := 21) (n := 1) 1 rfl rfl (fm_dec dtX11_puts 13 rfl) ?_
  refine pv_aloadn (pc := 22) (n := 0) 0 rfl rfl (fm_dec dtX11_puts 14 rfl) ?_
  refine pv_getI (k := 0) (j := 35) (ci := 11) (pc := 23) pfl_X11_436 (by decide) rfl (by decide) (fm_dec dtX11_puts 15 rfl) ?_
  refine pv_iconst (pc := 26) (v := 1) (by decide) (fm_dec dtX11_puts 16 rfl) ?_
  refine pv_isub (pc := 27) (fm_dec dtX11_puts 17 rfl) ?_
  refine pv_iald (k := (519 + i)) (n := 239) (pc := 28) (rw_kept.2.2.2 i hi).2.2.1 (rw_kept.2.2.2 i hi).2.2.2.1 (rw_kept.2.2.2 i hi).2.2.2.2 (ix_in (p1m1 hs hs9) hs9) (fm_dec dtX11_puts 18 rfl) ?_
  exact pv_ireturn (pc := 29) rfl (fm_dec dtX11_puts 19 rfl) (by have h9 : ((fmI M 0 35 (M.1 0 35 + 1)).1 0 35 - 1).toInt = s := p1m1 hs hs9; rw [i32_cl h9, fmI_k _ _ (by omega)]; exact hq)
set_option maxRecDepth 20000 in
theorem pc0 {Q : fmR → fmM → Prop} {M0 : fmM} {i w : Nat} {ww : Int32} (hi : i < 3) (hww : ww.toInt = w) (hw16 : w < 16) (hq : ∀ (M' : fmM) (kk' : Int32), pa0 M0 i (15 + 14 * (w + 1)) M' → pvEv Tm 1 qX11_putsAll 99 [some (.ref 0), some (.ref (519 + i)), some (.int 0), some (.int ww), some (.int kk')] [] M' Q) : ∀ (m : Nat) (M : fmM) (k : Nat) (kk : Int32), kk.toInt = k → k + m = 14 → pa0 M0 i (15 + 14 * w + k) M → pvEv Tm 1 qX11_putsAll 62 [some (.ref 0), some (.ref (519 + i)), some (.int 0), some (.int ww), some (.int kk)] [] M Q := by
  intro m
  induction m using Nat.strongRecOn with
  | _ m ih =>
    intro M k kk hkk hm hP
    refine pv_iload (pc := 62) (i := 4) rfl (fm_dec dtX11_putsAll 37 rfl) ?_
    refine pv_bipush (pc := 64) (v := 14) (by decide) (fm_dec dtX11_putsAll 38 rfl) ?_
    refine pv_icmp_ge (pc := 66) 99 (by decide) (fm_dec dtX11_putsAll 39 rfl) (fun hc66 => ?_) (fun hc66 => ?_)
    · have hk14 : k = 14 := (by rw [sc_le] at hc66; have h9 : (14 : Int32).toInt = 14 := (by decide); omega)
      subst hk14
      exact hq M kk (by rw [show 15 + 14 * (w + 1) = 15 + 14 * w + 14 by omega]; exact hP)
    · have hk14 : k < 14 := (by rw [sc_le] at hc66; have h9 : (14 : Int32).toInt = 14 := (by decide); omega)
      refine pv_aloadn (pc := 69) (n := 0) 0 rfl rfl (fm_dec dtX11_putsAll 40 rfl) ?_
      refine pv_getR (k := 0) (j := 29) (ci := 11) (pc := 70) 25 rfl (by decide) pfl_X11_67 (by decide) rfl (by decide) (fm_dec dtX11_putsAll 41 rfl) ?_
      refine pv_iloadn (pc := 73) (n := 3) 3 rfl rfl (fm_dec dtX11_putsAll 42 rfl) ?_
      refine pv_aald (k := 25) (n := 16) (r := (503 + w)) (pc := 74) (by decide) (Or.inr (Or.inr rfl)) rfl (rw_before.inb hww hw16) (rw_before.at hww hw16) (rw_before.2.2.2 _ hw16).2.1 (fm_dec dtX11_putsAll 43 rfl) ?_
      refine pv_iload (pc := 75) (i := 4) rfl (fm_dec dtX11_putsAll 44 rfl) ?_
      refine pv_aloadn (pc := 77) (n := 0) 0 rfl rfl (fm_dec dtX11_putsAll 45 rfl) ?_
      refine pv_aloadn (pc := 78) (n := 1) 1 rfl rfl (fm_dec dtX11_putsAll 46 rfl) ?_
      refine pv_aloadn (pc := 79) (n := 0) 0 rfl rfl (fm_dec dtX11_putsAll 47 rfl) ?_
      refine pv_getR (k := 0) (j := 29) (ci := 11) (pc := 80) 25 rfl (by decide) pfl_X11_67 (by decide) rfl (by decide) (fm_dec dtX11_putsAll 48 rfl) ?_
      refine pv_iloadn (pc := 83) (n := 3) 3 rfl rfl (fm_dec dtX11_putsAll 49 rfl) ?_
      refine pv_aald (k := 25) (n := 16) (r := (503 + w)) (pc := 84) (by decide) (Or.inr (Or.inr rfl)) rfl (rw_before.inb hww hw16) (rw_before.at hww hw16) (rw_before.2.2.2 _ hw16).2.1 (fm_dec dtX11_putsAll 50 rfl) ?_
      refine pv_iload (pc := 85) (i := 4) rfl (fm_dec dtX11_putsAll 51 rfl) ?_
      refine pv_iald (k := (503 + w)) (n := 14) (pc := 87) (rw_before.2.2.2 _ hw16).2.2.1 (rw_before.2.2.2 _ hw16).2.2.2.1 (rw_before.2.2.2 _ hw16).2.2.2.2 (ix_in hkk (by omega)) (fm_dec dtX11_putsAll 52 rfl) ?_
      refine pv_iloadn (pc := 88) (n := 2) 2 rfl rfl (fm_dec dtX11_putsAll 53 rfl) ?_
      refine pv_invV3 (k := 0) (d' := 0) (pc := 89) pcv_X11_439 (by decide) rfl (Nat.le_of_ble_eq_true rfl) (by decide) (fm_dec dtX11_putsAll 54 rfl) ?_
      refine c_puts0 hi hP.2.2.1 (by omega) ?_
      refine pv_then1 ?_
      refine pv_iast (k := (503 + w)) (n := 14) (pc := 92) (rw_before.2.2.2 _ hw16).2.2.1 (rw_before.2.2.2 _ hw16).2.2.2.1 (rw_before.2.2.2 _ hw16).2.2.2.2 (ix_in hkk (by omega)) (fm_dec dtX11_putsAll 55 rfl) ?_
      refine pv_iincc (pc := 93) 4 1 (by decide) rfl (by decide) rfl (fm_dec dtX11_putsAll 56 rfl) ?_
      dsimp only [List.set_cons_zero, List.set_cons_succ]
      refine pv_goto (pc := 96) 62 (by decide) (fm_dec dtX11_putsAll 57 rfl) ?_
      rw [i32_cl hkk]
      exact ih (14 - (k + 1)) (by omega) _ (k + 1) _ (i32_p1 hkk (by omega)) (by omega) (hP.step (by omega) (sl_b hk14))
set_option maxRecDepth 20000 in
theorem pb0 {Q : fmR → fmM → Prop} {M0 : fmM} {i : Nat} (hi : i < 3) (hq : ∀ M' : fmM, pa0 M0 i 239 M' → Q (.inl none) M') : ∀ (m : Nat) (M : fmM) (w : Nat) (ww : Int32) (v4 : Option Value), ww.toInt = w → w + m = 16 → pa0 M0 i (15 + 14 * w) M → pvEv Tm 1 qX11_putsAll 53 [some (.ref 0), some (.ref (519 + i)), some (.int 0), some (.int ww), v4] [] M Q := by
  intro m
  induction m using Nat.strongRecOn with
  | _ m ih =>
    intro M w ww v4 hww hm hP
    refine pv_iloadn (pc := 53) (n := 3) 3 rfl rfl (fm_dec dtX11_putsAll 32 rfl) ?_
    refine pv_bipush (pc := 54) (v := 16) (by decide) (fm_dec dtX11_putsAll 33 rfl) ?_
    refine pv_icmp_ge (pc := 56) 105 (by decide) (fm_dec dtX11_putsAll 34 rfl) (fun hc56 => ?_) (fun hc56 => ?_)
    · exact pv_return (pc := 105) rfl (fm_dec dtX11_putsAll 60 rfl) (hq M (by have hw : w = 16 := (by rw [sc_le] at hc56; have h9 : (16 : Int32).toInt = 16 := (by decide); omega); subst hw; exact hP))
    · have hw16 : w < 16 := (by rw [sc_le] at hc56; have h9 : (16 : Int32).toInt = 16 := (by decide); omega)
      refine pv_iconst (pc := 59) (v := 0) (by decide) (fm_dec dtX11_putsAll 35 rfl) ?_
      refine pv_istore (pc := 60) (i := 4) (by decide) rfl (fm_dec dtX11_putsAll 36 rfl) ?_
      dsimp only [List.set_cons_zero, List.set_cons_succ]
      refine pc0 hi hww hw16 (fun M3 k3 hP3 => ?_) 14 _ 0 _ (by decide) (by decide) hP
      refine pv_iincc (pc := 99) 3 1 (by decide) rfl (by decide) rfl (fm_dec dtX11_putsAll 58 rfl) ?_
      dsimp only [List.set_cons_zero, List.set_cons_succ]
      refine pv_goto (pc := 102) 53 (by decide) (fm_dec dtX11_putsAll 59 rfl) ?_
      exact ih (16 - (w + 1)) (by omega) _ (w + 1) _ _ (i32_p1 hww (by omega)) (by omega) hP3
set_option maxRecDepth 20000 in
theorem pd0 {Q : fmR → fmM → Prop} {M0 : fmM} {i : Nat} (hi : i < 3) (hq : ∀ (M' : fmM) (kk' : Int32), pa0 M0 i 15 M' → pvEv Tm 1 qX11_putsAll 51 [some (.ref 0), some (.ref (519 + i)), some (.int 0), some (.int kk'), none] [] M' Q) : ∀ (m : Nat) (M : fmM) (k : Nat) (kk : Int32), kk.toInt = k → k + m = 14 → pa0 M0 i (1 + k) M → pvEv Tm 1 qX11_putsAll 21 [some (.ref 0), some (.ref (519 + i)), some (.int 0), some (.int kk), none] [] M Q := by
  intro m
  induction m using Nat.strongRecOn with
  | _ m ih =>
    intro M k kk hkk hm hP
    refine pv_iloadn (pc := 21) (n := 3) 3 rfl rfl (fm_dec dtX11_putsAll 13 rfl) ?_
    refine pv_bipush (pc := 22) (v := 14) (by decide) (fm_dec dtX11_putsAll 14 rfl) ?_
    refine pv_icmp_ge (pc := 24) 51 (by decide) (fm_dec dtX11_putsAll 15 rfl) (fun hc24 => ?_) (fun hc24 => ?_)
    · have hk14 : k = 14 := (by rw [sc_le] at hc24; have h9 : (14 : Int32).toInt = 14 := (by decide); omega)
      subst hk14
      exact hq M kk hP
    · have hk14 : k < 14 := (by rw [sc_le] at hc24; have h9 : (14 : Int32).toInt = 14 := (by decide); omega)
      refine pv_aloadn (pc := 27) (n := 0) 0 rfl rfl (fm_dec dtX11_putsAll 16 rfl) ?_
      refine pv_getR (k := 0) (j := 27) (ci := 11) (pc := 28) 7 rfl (by decide) pfl_X11_61 (by decide) rfl (by decide) (fm_dec dtX11_putsAll 17 rfl) ?_
      refine pv_iloadn (pc := 31) (n := 3) 3 rfl rfl (fm_dec dtX11_putsAll 18 rfl) ?_
      refine pv_aloadn (pc := 32) (n := 0) 0 rfl rfl (fm_dec dtX11_putsAll 19 rfl) ?_
      refine pv_aloadn (pc := 33) (n := 1) 1 rfl rfl (fm_dec dtX11_putsAll 20 rfl) ?_
      refine pv_aloadn (pc := 34) (n := 0) 0 rfl rfl (fm_dec dtX11_putsAll 21 rfl) ?_
      refine pv_getR (k := 0) (j := 27) (ci := 11) (pc := 35) 7 rfl (by decide) pfl_X11_61 (by decide) rfl (by decide) (fm_dec dtX11_putsAll 22 rfl) ?_
      refine pv_iloadn (pc := 38) (n := 3) 3 rfl rfl (fm_dec dtX11_putsAll 23 rfl) ?_
      refine pv_iald (k := 7) (n := 14) (pc := 39) (by decide) rfl rfl (ix_in hkk (by omega)) (fm_dec dtX11_putsAll 24 rfl) ?_
      refine pv_iloadn (pc := 40) (n := 2) 2 rfl rfl (fm_dec dtX11_putsAll 25 rfl) ?_
      refine pv_invV3 (k := 0) (d' := 0) (pc := 41) pcv_X11_439 (by decide) rfl (Nat.le_of_ble_eq_true rfl) (by decide) (fm_dec dtX11_putsAll 26 rfl) ?_
      refine c_puts0 hi hP.2.2.1 (by omega) ?_
      refine pv_then1 ?_
      refine pv_iast (k := 7) (n := 14) (pc := 44) (by decide) rfl rfl (ix_in hkk (by omega)) (fm_dec dtX11_putsAll 27 rfl) ?_
      refine pv_iincc (pc := 45) 3 1 (by decide) rfl (by decide) rfl (fm_dec dtX11_putsAll 28 rfl) ?_
      dsimp only [List.set_cons_zero, List.set_cons_succ]
      refine pv_goto (pc := 48) 21 (by decide) (fm_dec dtX11_putsAll 29 rfl) ?_
      rw [i32_cl hkk]
      exact ih (14 - (k + 1)) (by omega) _ (k + 1) _ (i32_p1 hkk (by omega)) (by omega) (hP.step (by omega) (sl_7 hk14))
set_option maxRecDepth 20000 in
theorem c_putsAll0 {M : fmM} {Q : fmR → fmM → Prop} {i : Nat} (hi : i < 3) (hq : ∀ M' : fmM, pa0 M i 239 M' → Q (.inl none) M') : pvGood Tm 1 qX11_putsAll [.ref 0, .ref (519 + i), .int 0] M Q := by
  refine pvGood_of (Nat.le_of_ble_eq_true rfl) ?_
  show pvEv Tm 1 qX11_putsAll 0 [some (.ref 0), some (.ref (519 + i)), some (.int 0), none, none] [] M Q
  refine pv_aloadn (pc := 0) (n := 0) 0 rfl rfl (fm_dec dtX11_putsAll 0 rfl) ?_
  refine pv_iconst (pc := 1) (v := 0) (by decide) (fm_dec dtX11_putsAll 1 rfl) ?_
  refine pv_putI (k := 0) (j := 35) (ci := 11) (pc := 2) pfl_X11_436 (by decide) rfl (by decide) (fm_dec dtX11_putsAll 2 rfl) ?_
  refine pv_aloadn (pc := 5) (n := 0) 0 rfl rfl (fm_dec dtX11_putsAll 3 rfl) ?_
  refine pv_aloadn (pc := 6) (n := 0) 0 rfl rfl (fm_dec dtX11_putsAll 4 rfl) ?_
  refine pv_aloadn (pc := 7) (n := 1) 1 rfl rfl (fm_dec dtX11_putsAll 5 rfl) ?_
  refine pv_aloadn (pc := 8) (n := 0) 0 rfl rfl (fm_dec dtX11_putsAll 6 rfl) ?_
  refine pv_getI (k := 0) (j := 32) (ci := 11) (pc := 9) pfl_X11_200 (by decide) rfl (by decide) (fm_dec dtX11_putsAll 7 rfl) ?_
  refine pv_iloadn (pc := 12) (n := 2) 2 rfl rfl (fm_dec dtX11_putsAll 8 rfl) ?_
  refine pv_invV3 (k := 0) (d' := 0) (pc := 13) pcv_X11_439 (by decide) rfl (Nat.le_of_ble_eq_true rfl) (by decide) (fm_dec dtX11_putsAll 9 rfl) ?_
  refine c_puts0 (s := 0) hi rfl (by decide) ?_
  refine pv_then1 ?_
  refine pv_putI (k := 0) (j := 32) (ci := 11) (pc := 16) pfl_X11_200 (by decide) rfl (by decide) (fm_dec dtX11_putsAll 10 rfl) ?_
  refine pv_iconst (pc := 19) (v := 0) (by decide) (fm_dec dtX11_putsAll 11 rfl) ?_
  refine pv_istoren (pc := 20) (n := 3) 3 rfl (by decide) rfl (fm_dec dtX11_putsAll 12 rfl) ?_
  dsimp only [List.set_cons_zero, List.set_cons_succ]
  refine pd0 (M0 := M) hi (fun M3 k3 hP3 => ?_) 14 _ 0 _ (by decide) (by decide) (pa0.nil.step (by decide) rfl)
  refine pv_iconst (pc := 51) (v := 0) (by decide) (fm_dec dtX11_putsAll 30 rfl) ?_
  refine pv_istoren (pc := 52) (n := 3) 3 rfl (by decide) rfl (fm_dec dtX11_putsAll 31 rfl) ?_
  dsimp only [List.set_cons_zero, List.set_cons_succ]
  exact pb0 hi hq 16 _ 0 _ _ (by decide) (by decide) hP3
set_option maxRecDepth 20000 in
theorem pc1 {Q : fmR → fmM → Prop} {M0 : fmM} {i w : Nat} {ww : Int32} (hi : i < 3) (hww : ww.toInt = w) (hw16 : w < 16) (hq : ∀ (M' : fmM) (kk' : Int32), pa1 M0 i (15 + 14 * (w + 1)) M' → pvEv Tm 1 qX11_putsAll 99 [some (.ref 0), some (.ref (519 + i)), some (.int 1), some (.int ww), some (.int kk')] [] M' Q) : ∀ (m : Nat) (M : fmM) (k : Nat) (kk : Int32), kk.toInt = k → k + m = 14 → pa1 M0 i (15 + 14 * w + k) M → pvEv Tm 1 qX11_putsAll 62 [some (.ref 0), some (.ref (519 + i)), some (.int 1), some (.int ww), some (.int kk)] [] M Q := by
  intro m
  induction m using Nat.strongRecOn with
  | _ m ih =>
    intro M k kk hkk hm hP
    refine pv_iload (pc := 62) (i := 4) rfl (fm_dec dtX11_putsAll 37 rfl) ?_
    refine pv_bipush (pc := 64) (v := 14) (by decide) (fm_dec dtX11_putsAll 38 rfl) ?_
    refine pv_icmp_ge (pc := 66) 99 (by decide) (fm_dec dtX11_putsAll 39 rfl) (fun hc66 => ?_) (fun hc66 => ?_)
    · have hk14 : k = 14 := (by rw [sc_le] at hc66; have h9 : (14 : Int32).toInt = 14 := (by decide); omega)
      subst hk14
      exact hq M kk (by rw [show 15 + 14 * (w + 1) = 15 + 14 * w + 14 by omega]; exact hP)
    · have hk14 : k < 14 := (by rw [sc_le] at hc66; have h9 : (14 : Int32).toInt = 14 := (by decide); omega)
      refine pv_aloadn (pc := 69) (n := 0) 0 rfl rfl (fm_dec dtX11_putsAll 40 rfl) ?_
      refine pv_getR (k := 0) (j := 29) (ci := 11) (pc := 70) 25 rfl (by decide) pfl_X11_67 (by decide) rfl (by decide) (fm_dec dtX11_putsAll 41 rfl) ?_
      refine pv_iloadn (pc := 73) (n := 3) 3 rfl rfl (fm_dec dtX11_putsAll 42 rfl) ?_
      refine pv_aald (k := 25) (n := 16) (r := (503 + w)) (pc := 74) (by decide) (Or.inr (Or.inr rfl)) rfl (rw_before.inb hww hw16) (rw_before.at hww hw16) (rw_before.2.2.2 _ hw16).2.1 (fm_dec dtX11_putsAll 43 rfl) ?_
      refine pv_iload (pc := 75) (i := 4) rfl (fm_dec dtX11_putsAll 44 rfl) ?_
      refine pv_aloadn (pc := 77) (n := 0) 0 rfl rfl (fm_dec dtX11_putsAll 45 rfl) ?_
      refine pv_aloadn (pc := 78) (n := 1) 1 rfl rfl (fm_dec dtX11_putsAll 46 rfl) ?_
      refine pv_aloadn (pc := 79) (n := 0) 0 rfl rfl (fm_dec dtX11_putsAll 47 rfl) ?_
      refine pv_getR (k := 0) (j := 29) (ci := 11) (pc := 80) 25 rfl (by decide) pfl_X11_67 (by decide) rfl (by decide) (fm_dec dtX11_putsAll 48 rfl) ?_
      refine pv_iloadn (pc := 83) (n := 3) 3 rfl rfl (fm_dec dtX11_putsAll 49 rfl) ?_
      refine pv_aald (k := 25) (n := 16) (r := (503 + w)) (pc := 84) (by decide) (Or.inr (Or.inr rfl)) rfl (rw_before.inb hww hw16) (rw_before.at hww hw16) (rw_before.2.2.2 _ hw16).2.1 (fm_dec dtX11_putsAll 50 rfl) ?_
      refine pv_iload (pc := 85) (i := 4) rfl (fm_dec dtX11_putsAll 51 rfl) ?_
      refine pv_iald (k := (503 + w)) (n := 14) (pc := 87) (rw_before.2.2.2 _ hw16).2.2.1 (rw_before.2.2.2 _ hw16).2.2.2.1 (rw_before.2.2.2 _ hw16).2.2.2.2 (ix_in hkk (by omega)) (fm_dec dtX11_putsAll 52 rfl) ?_
      refine pv_iloadn (pc := 88) (n := 2) 2 rfl rfl (fm_dec dtX11_putsAll 53 rfl) ?_
      refine pv_invV3 (k := 0) (d' := 0) (pc := 89) pcv_X11_439 (by decide) rfl (Nat.le_of_ble_eq_true rfl) (by decide) (fm_dec dtX11_putsAll 54 rfl) ?_
      refine c_puts1 hi hP.2.2.1 (by omega) ?_
      refine pv_then1 ?_
      refine pv_iast (k := (503 + w)) (n := 14) (pc := 92) (rw_before.2.2.2 _ hw16).2.2.1 (rw_before.2.2.2 _ hw16).2.2.2.1 (rw_before.2.2.2 _ hw16).2.2.2.2 (ix_in hkk (by omega)) (fm_dec dtX11_putsAll 55 rfl) ?_
      refine pv_iincc (pc := 93) 4 1 (by decide) rfl (by decide) rfl (fm_dec dtX11_putsAll 56 rfl) ?_
      dsimp only [List.set_cons_zero, List.set_cons_succ]
      refine pv_goto (pc := 96) 62 (by decide) (fm_dec dtX11_putsAll 57 rfl) ?_
      rw [i32_cl hkk]
      exact ih (14 - (k + 1)) (by omega) _ (k + 1) _ (i32_p1 hkk (by omega)) (by omega) (hP.step (by omega) (sl_b hk14))
set_option maxRecDepth 20000 in
theorem pb1 {Q : fmR → fmM → Prop} {M0 : fmM} {i : Nat} (hi : i < 3) (hq : ∀ M' : fmM, pa1 M0 i 239 M' → Q (.inl none) M') : ∀ (m : Nat) (M : fmM) (w : Nat) (ww : Int32) (v4 : Option Value), ww.toInt = w → w + m = 16 → pa1 M0 i (15 + 14 * w) M → pvEv Tm 1 qX11_putsAll 53 [some (.ref 0), some (.ref (519 + i)), some (.int 1), some (.int ww), v4] [] M Q := by
  intro m
  induction m using Nat.strongRecOn with
  | _ m ih =>
    intro M w ww v4 hww hm hP
    refine pv_iloadn (pc := 53) (n := 3) 3 rfl rfl (fm_dec dtX11_putsAll 32 rfl) ?_
    refine pv_bipush (pc := 54) (v := 16) (by decide) (fm_dec dtX11_putsAll 33 rfl) ?_
    refine pv_icmp_ge (pc := 56) 105 (by decide) (fm_dec dtX11_putsAll 34 rfl) (fun hc56 => ?_) (fun hc56 => ?_)
    · exact pv_return (pc := 105) rfl (fm_dec dtX11_putsAll 60 rfl) (hq M (by have hw : w = 16 := (by rw [sc_le] at hc56; have h9 : (16 : Int32).toInt = 16 := (by decide); omega); subst hw; exact hP))
    · have hw16 : w < 16 := (by rw [sc_le] at hc56; have h9 : (16 : Int32).toInt = 16 := (by decide); omega)
      refine pv_iconst (pc := 59) (v := 0) (by decide) (fm_dec dtX11_putsAll 35 rfl) ?_
      refine pv_istore (pc := 60) (i := 4) (by decide) rfl (fm_dec dtX11_putsAll 36 rfl) ?_
      dsimp only [List.set_cons_zero, List.set_cons_succ]
      refine pc1 hi hww hw16 (fun M3 k3 hP3 => ?_) 14 _ 0 _ (by decide) (by decide) hP
      refine pv_iincc (pc := 99) 3 1 (by decide) rfl (by decide) rfl (fm_dec dtX11_putsAll 58 rfl) ?_
      dsimp only [List.set_cons_zero, List.set_cons_succ]
      refine pv_goto (pc := 102) 53 (by decide) (fm_dec dtX11_putsAll 59 rfl) ?_
      exact ih (16 - (w + 1)) (by omega) _ (w + 1) _ _ (i32_p1 hww (by omega)) (by omega) hP3
set_option maxRecDepth 20000 in
theorem pd1 {Q : fmR → fmM → Prop} {M0 : fmM} {i : Nat} (hi : i < 3) (hq : ∀ (M' : fmM) (kk' : Int32), pa1 M0 i 15 M' → pvEv Tm 1 qX11_putsAll 51 [some (.ref 0), some (.ref (519 + i)), some (.int 1), some (.int kk'), none] [] M' Q) : ∀ (m : Nat) (M : fmM) (k : Nat) (kk : Int32), kk.toInt = k → k + m = 14 → pa1 M0 i (1 + k) M → pvEv Tm 1 qX11_putsAll 21 [some (.ref 0), some (.ref (519 + i)), some (.int 1), some (.int kk), none] [] M Q := by
  intro m
  induction m using Nat.strongRecOn with
  | _ m ih =>
    intro M k kk hkk hm hP
    refine pv_iloadn (pc := 21) (n := 3) 3 rfl rfl (fm_dec dtX11_putsAll 13 rfl) ?_
    refine pv_bipush (pc := 22) (v := 14) (by decide) (fm_dec dtX11_putsAll 14 rfl) ?_
    refine pv_icmp_ge (pc := 24) 51 (by decide) (fm_dec dtX11_putsAll 15 rfl) (fun hc24 => ?_) (fun hc24 => ?_)
    · have hk14 : k = 14 := (by rw [sc_le] at hc24; have h9 : (14 : Int32).toInt = 14 := (by decide); omega)
      subst hk14
      exact hq M kk hP
    · have hk14 : k < 14 := (by rw [sc_le] at hc24; have h9 : (14 : Int32).toInt = 14 := (by decide); omega)
      refine pv_aloadn (pc := 27) (n := 0) 0 rfl rfl (fm_dec dtX11_putsAll 16 rfl) ?_
      refine pv_getR (k := 0) (j := 27) (ci := 11) (pc := 28) 7 rfl (by decide) pfl_X11_61 (by decide) rfl (by decide) (fm_dec dtX11_putsAll 17 rfl) ?_
      refine pv_iloadn (pc := 31) (n := 3) 3 rfl rfl (fm_dec dtX11_putsAll 18 rfl) ?_
      refine pv_aloadn (pc := 32) (n := 0) 0 rfl rfl (fm_dec dtX11_putsAll 19 rfl) ?_
      refine pv_aloadn (pc := 33) (n := 1) 1 rfl rfl (fm_dec dtX11_putsAll 20 rfl) ?_
      refine pv_aloadn (pc := 34) (n := 0) 0 rfl rfl (fm_dec dtX11_putsAll 21 rfl) ?_
      refine pv_getR (k := 0) (j := 27) (ci := 11) (pc := 35) 7 rfl (by decide) pfl_X11_61 (by decide) rfl (by decide) (fm_dec dtX11_putsAll 22 rfl) ?_
      refine pv_iloadn (pc := 38) (n := 3) 3 rfl rfl (fm_dec dtX11_putsAll 23 rfl) ?_
      refine pv_iald (k := 7) (n := 14) (pc := 39) (by decide) rfl rfl (ix_in hkk (by omega)) (fm_dec dtX11_putsAll 24 rfl) ?_
      refine pv_iloadn (pc := 40) (n := 2) 2 rfl rfl (fm_dec dtX11_putsAll 25 rfl) ?_
      refine pv_invV3 (k := 0) (d' := 0) (pc := 41) pcv_X11_439 (by decide) rfl (Nat.le_of_ble_eq_true rfl) (by decide) (fm_dec dtX11_putsAll 26 rfl) ?_
      refine c_puts1 hi hP.2.2.1 (by omega) ?_
      refine pv_then1 ?_
      refine pv_iast (k := 7) (n := 14) (pc := 44) (by decide) rfl rfl (ix_in hkk (by omega)) (fm_dec dtX11_putsAll 27 rfl) ?_
      refine pv_iincc (pc := 45) 3 1 (by decide) rfl (by decide) rfl (fm_dec dtX11_putsAll 28 rfl) ?_
      dsimp only [List.set_cons_zero, List.set_cons_succ]
      refine pv_goto (pc := 48) 21 (by decide) (fm_dec dtX11_putsAll 29 rfl) ?_
      rw [i32_cl hkk]
      exact ih (14 - (k + 1)) (by omega) _ (k + 1) _ (i32_p1 hkk (by omega)) (by omega) (hP.step (by omega) (sl_7 hk14))
set_option maxRecDepth 20000 in
theorem c_putsAll1 {M : fmM} {Q : fmR → fmM → Prop} {i : Nat} (hi : i < 3) (hq : ∀ M' : fmM, pa1 M i 239 M' → Q (.inl none) M') : pvGood Tm 1 qX11_putsAll [.ref 0, .ref (519 + i), .int 1] M Q := by
  refine pvGood_of (Nat.le_of_ble_eq_true rfl) ?_
  show pvEv Tm 1 qX11_putsAll 0 [some (.ref 0), some (.ref (519 + i)), some (.int 1), none, none] [] M Q
  refine pv_aloadn (pc := 0) (n := 0) 0 rfl rfl (fm_dec dtX11_putsAll 0 rfl) ?_
  refine pv_iconst (pc := 1) (v := 0) (by decide) (fm_dec dtX11_putsAll 1 rfl) ?_
  refine pv_putI (k := 0) (j := 35) (ci := 11) (pc := 2) pfl_X11_436 (by decide) rfl (by decide) (fm_dec dtX11_putsAll 2 rfl) ?_
  refine pv_aloadn (pc := 5) (n := 0) 0 rfl rfl (fm_dec dtX11_putsAll 3 rfl) ?_
  refine pv_aloadn (pc := 6) (n := 0) 0 rfl rfl (fm_dec dtX11_putsAll 4 rfl) ?_
  refine pv_aloadn (pc := 7) (n := 1) 1 rfl rfl (fm_dec dtX11_putsAll 5 rfl) ?_
  refine pv_aloadn (pc := 8) (n := 0) 0 rfl rfl (fm_dec dtX11_putsAll 6 rfl) ?_
  refine pv_getI (k := 0) (j := 32) (ci := 11) (pc := 9) pfl_X11_200 (by decide) rfl (by decide) (fm_dec dtX11_putsAll 7 rfl) ?_
  refine pv_iloadn (pc := 12) (n := 2) 2 rfl rfl (fm_dec dtX11_putsAll 8 rfl) ?_
  refine pv_invV3 (k := 0) (d' := 0) (pc := 13) pcv_X11_439 (by decide) rfl (Nat.le_of_ble_eq_true rfl) (by decide) (fm_dec dtX11_putsAll 9 rfl) ?_
  refine c_puts1 (s := 0) hi rfl (by decide) ?_
  refine pv_then1 ?_
  refine pv_putI (k := 0) (j := 32) (ci := 11) (pc := 16) pfl_X11_200 (by decide) rfl (by decide) (fm_dec dtX11_putsAll 10 rfl) ?_
  refine pv_iconst (pc := 19) (v := 0) (by decide) (fm_dec dtX11_putsAll 11 rfl) ?_
  refine pv_istoren (pc := 20) (n := 3) 3 rfl (by decide) rfl (fm_dec dtX11_putsAll 12 rfl) ?_
  dsimp only [List.set_cons_zero, List.set_cons_succ]
  refine pd1 (M0 := M) hi (fun M3 k3 hP3 => ?_) 14 _ 0 _ (by decide) (by decide) (pa1.nil.step (by decide) rfl)
  refine pv_iconst (pc := 51) (v := 0) (by decide) (fm_dec dtX11_putsAll 30 rfl) ?_
  refine pv_istoren (pc := 52) (n := 3) 3 rfl (by decide) rfl (fm_dec dtX11_putsAll 31 rfl) ?_
  dsimp only [List.set_cons_zero, List.set_cons_succ]
  exact pb1 hi hq 16 _ 0 _ _ (by decide) (by decide) hP3
theorem kp_0 : ∀ s, s < 239 → scAt (invM 519) s = scAt (invM (sl s).1) (sl s).2 ∧ (sl s).2 < Tm.2.2.1 (sl s).1 := by decide +kernel
theorem kp_1 : ∀ s, s < 239 → scAt (invM 520) s = scAt (invM (sl s).1) (sl s).2 ∧ (sl s).2 < Tm.2.2.1 (sl s).1 := by decide +kernel
theorem kp_2 : ∀ s, s < 239 → scAt (invM 521) s = scAt (invM (sl s).1) (sl s).2 ∧ (sl s).2 < Tm.2.2.1 (sl s).1 := by decide +kernel
theorem kp {i : Nat} (hi : i < 3) {s : Nat} (hs : s < 239) : scAt (invM (519 + i)) s = scAt (invM (sl s).1) (sl s).2 ∧ (sl s).2 < Tm.2.2.1 (sl s).1 ∧ s < Tm.2.2.1 (519 + i) := by
  rcases (show i = 0 ∨ i = 1 ∨ i = 2 by omega) with rfl | rfl | rfl
  · exact ⟨(kp_0 s hs).1, (kp_0 s hs).2, hs⟩
  · exact ⟨(kp_1 s hs).1, (kp_1 s hs).2, hs⟩
  · exact ⟨(kp_2 s hs).1, (kp_2 s hs).2, hs⟩
theorem kp_j : ∀ s, s < 239 → jmPr (sl s).1 (sl s).2 = false := by decide +kernel
theorem kp_k {i : Nat} (hi : i < 3) (j : Nat) : jmPr (519 + i) j = false := by
  rcases (show i = 0 ∨ i = 1 ∨ i = 2 by omega) with rfl | rfl | rfl <;> rfl
theorem scIn_of {W : List (Nat × Nat × Nat)} {k j : Nat} (w : Nat × Nat × Nat) (hw : w ∈ W) (h : w.1 = k ∧ w.2.1 ≤ j ∧ j < w.2.1 + w.2.2) : scIn W k j = true := by
  unfold scIn
  rw [List.any_eq_true]
  refine ⟨w, hw, ?_⟩
  simp only [Bool.and_eq_true, beq_iff_eq, Nat.ble_eq, Nat.blt_eq]
  exact ⟨⟨h.1, h.2.1⟩, h.2.2⟩
theorem kp_fr : ∀ s, s < 239 → scIn [(0, 32, 1), (0, 35, 1), (7, 0, 14), (503, 0, 14), (504, 0, 14), (505, 0, 14), (506, 0, 14), (507, 0, 14), (508, 0, 14), (509, 0, 14), (510, 0, 14), (511, 0, 14), (512, 0, 14), (513, 0, 14), (514, 0, 14), (515, 0, 14), (516, 0, 14), (517, 0, 14), (518, 0, 14)] (sl s).1 (sl s).2 = true := by decide +kernel
theorem pa0.inv {M M' : fmM} {i : Nat} (hi : i < 3) (h : pa0 M i 239 M') (hI : scInv Tm invM M) : scInv Tm invM M' := by
  refine ⟨fun k j hj => ?_, fun hm => jm_stable (hI.2 hm) (fun k j hk => ?_)⟩
  · by_cases e : k = 519 + i ∧ j < 239
    · obtain ⟨rfl, e⟩ := e
      rw [h.1 j e, (kp hi e).1]
      exact hI.1 _ _ (kp hi e).2.1
    · by_cases e2 : k = 0 ∧ j = 35
      · obtain ⟨rfl, rfl⟩ := e2
        exact scq_t _
      · rw [h.2.1 k j e e2]
        exact hI.1 k j hj
  · refine h.2.1 k j (fun e => ?_) (fun e => ?_)
    · obtain ⟨rfl, e⟩ := e
      rw [kp_k hi] at hk
      cases hk
    · obtain ⟨rfl, rfl⟩ := e
      cases hk
theorem pa1.inv {M M' : fmM} {i : Nat} (hi : i < 3) (h : pa1 M i 239 M') (hI : scInv Tm invM M) : scInv Tm invM M' := by
  refine ⟨fun k j hj => ?_, fun hm => jm_stable (hI.2 hm) (fun k j hk => ?_)⟩
  · by_cases e : ∃ t, t < 239 ∧ (sl t).1 = k ∧ (sl t).2 = j
    · obtain ⟨t, ht, rfl, rfl⟩ := e
      rw [h.1 t ht, ← (kp hi ht).1]
      exact hI.1 _ _ (kp hi ht).2.2
    · by_cases e2 : k = 0 ∧ j = 35
      · obtain ⟨rfl, rfl⟩ := e2
        exact scq_t _
      · rw [h.2.1 k j (fun t ht e3 => e ⟨t, ht, e3⟩) e2]
        exact hI.1 k j hj
  · refine h.2.1 k j (fun t ht e => ?_) (fun e => ?_)
    · obtain ⟨rfl, rfl⟩ := e
      rw [kp_j t ht] at hk
      cases hk
    · obtain ⟨rfl, rfl⟩ := e
      cases hk
theorem hh_hand_putsAll0 : scH Tm invM cc_hand_putsAll0 := by
  intro M σ as hE hS hF hI
  obtain ⟨r, st1, hr, e1, q1⟩ := scSk_r hS
  obtain ⟨k, st2, hk, e2, q2⟩ := scSk_r q1
  obtain ⟨b, st3, e3, hb, q3⟩ := scSk_i q2
  have e5 := scSk_0 q3
  have er : r = 0 := by simpa using hr
  obtain ⟨i, hi, rfl⟩ : ∃ i, i < 3 ∧ k = 519 + i := by
    have h9 : k = 519 ∨ k = 520 ∨ k = 521 := by simpa using hk
    exact ⟨k - 519, by omega, by omega⟩
  have eb : b = 0 := i32_ext hb
  subst eb
  subst er
  subst e5
  subst e3
  subst e2
  subst e1
  refine c_putsAll0 hi (fun M' h => ⟨⟨_, List.mem_cons_self, rfl, fun q hq => (by cases hq), fun q hq => (by cases hq)⟩, h.inv hi hI, fun k j hkj => ⟨h.2.1 k j (fun e => ?_) (fun e => ?_), by rw [h.2.2.2]⟩⟩)
  · obtain ⟨rfl, e⟩ := e
    rw [scIn_of (519 + i, 0, 239) (by rcases (show i = 0 ∨ i = 1 ∨ i = 2 by omega) with rfl | rfl | rfl <;> decide) ⟨rfl, Nat.zero_le _, by show j < 0 + 239; omega⟩] at hkj
    cases hkj
  · obtain ⟨rfl, rfl⟩ := e
    rw [scIn_of (0, 35, 1) (by decide) ⟨rfl, Nat.le_refl _, by decide⟩] at hkj
    cases hkj
theorem hh_hand_putsAll1 : scH Tm invM cc_hand_putsAll1 := by
  intro M σ as hE hS hF hI
  obtain ⟨r, st1, hr, e1, q1⟩ := scSk_r hS
  obtain ⟨k, st2, hk, e2, q2⟩ := scSk_r q1
  obtain ⟨b, st3, e3, hb, q3⟩ := scSk_i q2
  have e5 := scSk_0 q3
  have er : r = 0 := by simpa using hr
  obtain ⟨i, hi, rfl⟩ : ∃ i, i < 3 ∧ k = 519 + i := by
    have h9 : k = 519 ∨ k = 520 ∨ k = 521 := by simpa using hk
    exact ⟨k - 519, by omega, by omega⟩
  have eb : b = 1 := i32_ext hb
  subst eb
  subst er
  subst e5
  subst e3
  subst e2
  subst e1
  refine c_putsAll1 hi (fun M' h => ⟨⟨_, List.mem_cons_self, rfl, fun q hq => (by cases hq), fun q hq => (by cases hq)⟩, h.inv hi hI, fun k j hkj => ⟨h.2.1 k j (fun t ht e => ?_) (fun e => ?_), by rw [h.2.2.2]⟩⟩)
  · obtain ⟨rfl, rfl⟩ := e
    have h9 := kp_fr t ht
    have hkj : scIn [(0, 32, 1), (0, 35, 1), (7, 0, 14), (503, 0, 14), (504, 0, 14), (505, 0, 14), (506, 0, 14), (507, 0, 14), (508, 0, 14), (509, 0, 14), (510, 0, 14), (511, 0, 14), (512, 0, 14), (513, 0, 14), (514, 0, 14), (515, 0, 14), (516, 0, 14), (517, 0, 14), (518, 0, 14)] (sl t).1 (sl t).2 = false := hkj
    rw [h9] at hkj
    cases hkj
  · obtain ⟨rfl, rfl⟩ := e
    rw [scIn_of (0, 35, 1) (by decide) ⟨rfl, Nat.le_refl _, by decide⟩] at hkj
    cases hkj
end
-- P 12na
section
abbrev cc_X11_has_0 : scC := (qX11_has, 0, [((-2147483648), 2147483647), ((-2147483648), 2147483647)], [.inl (some 0, 0), .inl (some 1, 0)], [], [(1, (0, 1), [], [], [])], [])
set_option maxRecDepth 20000 in
abbrev xx_X11_has_0 : scX := (Tm, invM, lnX11, [], cc_X11_has_0)
set_option maxRecDepth 20000 in
theorem hh_X11_has_0 : scH Tm invM cc_X11_has_0 := scCheck_ok (X := xx_X11_has_0) (nodes := []) (fuel := 4000) ⟨lqX11, fa_nil⟩ dtX11_has (by decide +kernel)
abbrev cc_X11_mayWrite_0 : scC := (qX11_mayWrite, 1, [(0, 7)], [.inr (.inr (.inl [0])), .inr (.inr (.inl [8])), .inl (some 0, 0)], [], [(1, (0, 1), [], [], [])], [])
set_option maxRecDepth 20000 in
abbrev xx_X11_mayWrite_0 : scX := (Tm, invM, lnX11, [(256, 1, 0, cc_X11_has_0)], cc_X11_mayWrite_0)
set_option maxRecDepth 20000 in
theorem hh_X11_mayWrite_0 : scH Tm invM cc_X11_mayWrite_0 := scCheck_ok (X := xx_X11_mayWrite_0) (nodes := []) (fuel := 4000) ⟨lqX11, fa_cons (⟨pcs_X11_256, hh_X11_has_0⟩) (fa_nil)⟩ dtX11_mayWrite (by decide +kernel)
abbrev cc_X11_yearsOf_0 : scC := (qX11_yearsOf, 0, [(0, 7), (0, 200)], [.inr (.inr (.inl [0])), .inl (some 0, 0), .inl (some 1, 0)], [], [(1, (0, 310), [], [], [])], [])
set_option maxRecDepth 20000 in
abbrev xx_X11_yearsOf_0 : scX := (Tm, invM, lnX11, [], cc_X11_yearsOf_0)
set_option maxRecDepth 20000 in
theorem hh_X11_yearsOf_0 : scH Tm invM cc_X11_yearsOf_0 := scCheck_ok (X := xx_X11_yearsOf_0) (nodes := []) (fuel := 4000) ⟨lqX11, fa_nil⟩ dtX11_yearsOf (by decide +kernel)
abbrev cc_X11_isByDead_0 : scC := (qX11_isByDead, 1, [(0, 7)], [.inr (.inr (.inl [0])), .inr (.inr (.inl [8])), .inl (some 0, 0)], [], [(1, (0, 1), [], [], [])], [])
set_option maxRecDepth 20000 in
abbrev xx_X11_isByDead_0 : scX := (Tm, invM, lnX11, [(256, 1, 0, cc_X11_has_0)], cc_X11_isByDead_0)
set_option maxRecDepth 20000 in
theorem hh_X11_isByDead_0 : scH Tm invM cc_X11_isByDead_0 := scCheck_ok (X := xx_X11_isByDead_0) (nodes := []) (fuel := 4000) ⟨lqX11, fa_cons (⟨pcs_X11_256, hh_X11_has_0⟩) (fa_nil)⟩ dtX11_isByDead (by decide +kernel)
abbrev cc_X11_changesOf_0 : scC := (qX11_changesOf, 0, [((-2147483648), 2147483647), ((-2147483648), 2147483647), ((-2147483648), 2147483647)], [.inr (.inr (.inl [0])), .inl (some 0, 0), .inl (some 1, 0), .inl (some 2, 0)], [], [(1, ((-2147483648), 2147483647), [], [], [])], [])
set_option maxRecDepth 20000 in
abbrev xx_X11_changesOf_0 : scX := (Tm, invM, lnX11, [], cc_X11_changesOf_0)
set_option maxRecDepth 20000 in
theorem hh_X11_changesOf_0 : scH Tm invM cc_X11_changesOf_0 := scCheck_ok (X := xx_X11_changesOf_0) (nodes := [(6, ([((-2147483648), 2147483647), ((-2147483648), 2147483647), ((-2147483648), 2147483647), ((-2147483648), 2147483647), (0, 24), (0, 60), (0, 7), (0, 24)], [some (.inr (.inr (.inl [0]))), some (.inl (some 0, 0)), some (.inl (some 1, 0)), some (.inl (some 2, 0)), some (.inl (some 3, 0)), some (.inl (some 4, 0))], [], [((67, 2), (some 5, 0)), ((67, 0), (some 6, 0)), ((4, 1), (some 7, 0))]), ([0, 0, 0, 0, (-2)], 48))]) (fuel := 4000) ⟨lqX11, fa_nil⟩ dtX11_changesOf (by decide +kernel)
abbrev cc_X11_wrongBy_0 : scC := (qX11_wrongBy, 4, [((-2147483648), 2147483647), ((-2147483648), 2147483647), ((-2147483648), 2147483647), ((-2147483648), 2147483647), ((-2147483648), 2147483647)], [.inr (.inr (.inl [0])), .inl (some 0, 0), .inl (some 1, 0), .inl (some 2, 0), .inl (some 3, 0), .inl (some 4, 0)], [], [(1, (0, 64), [], [], [])], [(5, 0, 160), (6, 0, 5)])
set_option maxRecDepth 20000 in
abbrev xx_X11_wrongBy_0 : scX := (Tm, invM, lnX11, [(260, 0, 11, cc_hand_byLaw)], cc_X11_wrongBy_0)
set_option maxRecDepth 20000 in
theorem hh_X11_wrongBy_0 : scH Tm invM cc_X11_wrongBy_0 := scCheck_ok (X := xx_X11_wrongBy_0) (nodes := []) (fuel := 4000) ⟨lqX11, fa_cons (⟨⟨0, _, pcv_X11_260, rfl⟩, hh_hand_byLaw⟩) (fa_nil)⟩ dtX11_wrongBy (by decide +kernel)
abbrev cc_X11_wrongIn_0 : scC := (qX11_wrongIn, 5, [(0, 7), ((-1000), 200), (0, 200)], [.inr (.inr (.inl [0])), .inr (.inr (.inl [8])), .inl (some 0, 0), .inl (some 1, 0), .inl (some 2, 0)], [], [(1, (0, 64), [], [], [])], [(5, 0, 160), (6, 0, 5)])
set_option maxRecDepth 20000 in
abbrev xx_X11_wrongIn_0 : scX := (Tm, invM, lnX11, [(263, 0, 11, cc_X11_yearsOf_0), (266, 0, 11, cc_X11_isByDead_0), (270, 0, 11, cc_X11_changesOf_0), (273, 0, 11, cc_X11_wrongBy_0)], cc_X11_wrongIn_0)
set_option maxRecDepth 20000 in
theorem hh_X11_wrongIn_0 : scH Tm invM cc_X11_wrongIn_0 := scCheck_ok (X := xx_X11_wrongIn_0) (nodes := []) (fuel := 4000) ⟨lqX11, fa_cons (⟨⟨2, _, pcv_X11_263, rfl⟩, hh_X11_yearsOf_0⟩) (fa_cons (⟨⟨2, _, pcv_X11_266, rfl⟩, hh_X11_isByDead_0⟩) (fa_cons (⟨⟨3, _, pcv_X11_270, rfl⟩, hh_X11_changesOf_0⟩) (fa_cons (⟨⟨5, _, pcv_X11_273, rfl⟩, hh_X11_wrongBy_0⟩) (fa_nil))))⟩ dtX11_wrongIn (by decide +kernel)
abbrev cc_X11_costIn_0 : scC := (qX11_costIn, 6, [(0, 7), ((-1000), 200), (0, 200)], [.inr (.inr (.inl [0])), .inr (.inr (.inl [8])), .inl (some 0, 0), .inl (some 1, 0), .inl (some 2, 0)], [], [(1, (0, 57024), [], [], [])], [(5, 0, 160), (6, 0, 5)])
set_option maxRecDepth 20000 in
abbrev xx_X11_costIn_0 : scX := (Tm, invM, lnX11, [(276, 0, 11, cc_X11_wrongIn_0)], cc_X11_costIn_0)
set_option maxRecDepth 20000 in
theorem hh_X11_costIn_0 : scH Tm invM cc_X11_costIn_0 := scCheck_ok (X := xx_X11_costIn_0) (nodes := []) (fuel := 4000) ⟨lqX11, fa_cons (⟨⟨4, _, pcv_X11_276, rfl⟩, hh_X11_wrongIn_0⟩) (fa_nil)⟩ dtX11_costIn (by decide +kernel)
abbrev cc_X11_costOf_0 : scC := (qX11_costOf, 7, [(0, 7)], [.inr (.inr (.inl [0])), .inr (.inr (.inl [8])), .inl (some 0, 0)], [], [(1, (0, 57024), [], [], [])], [(5, 0, 160), (6, 0, 5)])
set_option maxRecDepth 20000 in
abbrev xx_X11_costOf_0 : scX := (Tm, invM, lnX11, [(256, 1, 0, cc_X11_has_0), (280, 0, 11, cc_X11_costIn_0)], cc_X11_costOf_0)
set_option maxRecDepth 20000 in
theorem hh_X11_costOf_0 : scH Tm invM cc_X11_costOf_0 := scCheck_ok (X := xx_X11_costOf_0) (nodes := []) (fuel := 4000) ⟨lqX11, fa_cons (⟨pcs_X11_256, hh_X11_has_0⟩) (fa_cons (⟨⟨4, _, pcv_X11_280, rfl⟩, hh_X11_costIn_0⟩) (fa_nil))⟩ dtX11_costOf (by decide +kernel)
abbrev cc_X11_saved_0 : scC := (qX11_saved, 8, [(0, 7)], [.inr (.inr (.inl [0])), .inr (.inr (.inl [8])), .inl (some 0, 0)], [], [(1, (0, 2147483647), [], [], [])], [(5, 0, 160), (6, 0, 5)])
set_option maxRecDepth 20000 in
abbrev xx_X11_saved_0 : scX := (Tm, invM, lnX11, [(280, 0, 11, cc_X11_costIn_0), (293, 0, 11, cc_X11_costOf_0), (296, 0, 11, cc_X11_mayWrite_0)], cc_X11_saved_0)
set_option maxRecDepth 20000 in
theorem hh_X11_saved_0 : scH Tm invM cc_X11_saved_0 := scCheck_ok (X := xx_X11_saved_0) (nodes := []) (fuel := 4000) ⟨lqX11, fa_cons (⟨⟨4, _, pcv_X11_280, rfl⟩, hh_X11_costIn_0⟩) (fa_cons (⟨⟨2, _, pcv_X11_293, rfl⟩, hh_X11_costOf_0⟩) (fa_cons (⟨⟨2, _, pcv_X11_296, rfl⟩, hh_X11_mayWrite_0⟩) (fa_nil)))⟩ dtX11_saved (by decide +kernel)
abbrev cc_X11_hasPiece_0 : scC := (qX11_hasPiece, 0, [(0, 7)], [.inr (.inr (.inl [8])), .inl (some 0, 0)], [], [(1, (0, 1), [], [], [])], [])
set_option maxRecDepth 20000 in
abbrev xx_X11_hasPiece_0 : scX := (Tm, invM, lnX11, [], cc_X11_hasPiece_0)
set_option maxRecDepth 20000 in
theorem hh_X11_hasPiece_0 : scH Tm invM cc_X11_hasPiece_0 := scCheck_ok (X := xx_X11_hasPiece_0) (nodes := []) (fuel := 4000) ⟨lqX11, fa_nil⟩ dtX11_hasPiece (by decide +kernel)
abbrev cc_X11_renewHours_0 : scC := (qX11_renewHours, 1, [(0, 7)], [.inr (.inr (.inl [0])), .inl (some 0, 0)], [], [(1, (1, 9), [], [], [])], [])
set_option maxRecDepth 20000 in
abbrev xx_X11_renewHours_0 : scX := (Tm, invM, lnX11, [], cc_X11_renewHours_0)
set_option maxRecDepth 20000 in
theorem hh_X11_renewHours_0 : scH Tm invM cc_X11_renewHours_0 := scCheck_ok (X := xx_X11_renewHours_0) (nodes := []) (fuel := 4000) ⟨lqX11, fa_nil⟩ dtX11_renewHours (by decide +kernel)
abbrev cc_X11_hoursFor_0 : scC := (qX11_hoursFor, 2, [(0, 7)], [.inr (.inr (.inl [0])), .inr (.inr (.inl [8])), .inl (some 0, 0)], [], [(1, (0, 9), [], [], [])], [])
set_option maxRecDepth 20000 in
abbrev xx_X11_hoursFor_0 : scX := (Tm, invM, lnX11, [(283, 1, 0, cc_X11_hasPiece_0), (287, 0, 11, cc_X11_renewHours_0)], cc_X11_hoursFor_0)
set_option maxRecDepth 20000 in
theorem hh_X11_hoursFor_0 : scH Tm invM cc_X11_hoursFor_0 := scCheck_ok (X := xx_X11_hoursFor_0) (nodes := []) (fuel := 4000) ⟨lqX11, fa_cons (⟨pcs_X11_283, hh_X11_hasPiece_0⟩) (fa_cons (⟨⟨1, _, pcv_X11_287, rfl⟩, hh_X11_renewHours_0⟩) (fa_nil))⟩ dtX11_hoursFor (by decide +kernel)
abbrev cc_X11_dies_0 : scC := (qX11_dies, 8, [(0, 7)], [.inr (.inr (.inl [0])), .inr (.inr (.inl [8])), .inl (some 0, 0)], [], [(0, (0, 0), [], [], [])], [(5, 0, 160), (6, 0, 5), (8, 0, 10), (8, 11, 3)])
set_option maxRecDepth 20000 in
abbrev xx_X11_dies_0 : scX := (Tm, invM, lnX11, [(283, 1, 0, cc_X11_hasPiece_0), (293, 0, 11, cc_X11_costOf_0)], cc_X11_dies_0)
set_option maxRecDepth 20000 in
theorem hh_X11_dies_0 : scH Tm invM cc_X11_dies_0 := scCheck_ok (X := xx_X11_dies_0) (nodes := []) (fuel := 4000) ⟨lqX11, fa_cons (⟨pcs_X11_283, hh_X11_hasPiece_0⟩) (fa_cons (⟨⟨2, _, pcv_X11_293, rfl⟩, hh_X11_costOf_0⟩) (fa_nil))⟩ dtX11_dies (by decide +kernel)
abbrev cc_X11_copies_0 : scC := (qX11_copies, 0, [], [.inr (.inr (.inl [7])), .inr (.inr (.inl [8]))], [], [(0, (0, 0), [], [], [])], [(8, 0, 14)])
set_option maxRecDepth 20000 in
abbrev xx_X11_copies_0 : scX := (Tm, invM, lnX11, [], cc_X11_copies_0)
set_option maxRecDepth 20000 in
theorem hh_X11_copies_0 : scH Tm invM cc_X11_copies_0 := scCheck_ok (X := xx_X11_copies_0) (nodes := []) (fuel := 4000) ⟨lqX11, fa_nil⟩ dtX11_copies (by decide +kernel)
abbrev cc_X11_weekEnds_0 : scC := (qX11_weekEnds, 0, [], [.inr (.inr (.inl [0])), .inr (.inr (.inl [8]))], [], [(1, (0, 1), [], [], [])], [(8, 9, 2)])
set_option maxRecDepth 20000 in
abbrev xx_X11_weekEnds_0 : scX := (Tm, invM, lnX11, [], cc_X11_weekEnds_0)
set_option maxRecDepth 20000 in
theorem hh_X11_weekEnds_0 : scH Tm invM cc_X11_weekEnds_0 := scCheck_ok (X := xx_X11_weekEnds_0) (nodes := []) (fuel := 4000) ⟨lqX11, fa_nil⟩ dtX11_weekEnds (by decide +kernel)
abbrev cc_X11_isByDead_1 : scC := (qX11_isByDead, 1, [(0, 7)], [.inr (.inr (.inl [0])), .inr (.inr (.inl [7])), .inl (some 0, 0)], [], [(1, (0, 1), [], [], [])], [])
set_option maxRecDepth 20000 in
abbrev xx_X11_isByDead_1 : scX := (Tm, invM, lnX11, [(256, 1, 0, cc_X11_has_0)], cc_X11_isByDead_1)
set_option maxRecDepth 20000 in
theorem hh_X11_isByDead_1 : scH Tm invM cc_X11_isByDead_1 := scCheck_ok (X := xx_X11_isByDead_1) (nodes := []) (fuel := 4000) ⟨lqX11, fa_cons (⟨pcs_X11_256, hh_X11_has_0⟩) (fa_nil)⟩ dtX11_isByDead (by decide +kernel)
abbrev cc_X11_wrongIn_1 : scC := (qX11_wrongIn, 5, [(0, 7), ((-1000), 200), (0, 200)], [.inr (.inr (.inl [0])), .inr (.inr (.inl [7])), .inl (some 0, 0), .inl (some 1, 0), .inl (some 2, 0)], [], [(1, (0, 64), [], [], [])], [(5, 0, 160), (6, 0, 5)])
set_option maxRecDepth 20000 in
abbrev xx_X11_wrongIn_1 : scX := (Tm, invM, lnX11, [(263, 0, 11, cc_X11_yearsOf_0), (266, 0, 11, cc_X11_isByDead_1), (270, 0, 11, cc_X11_changesOf_0), (273, 0, 11, cc_X11_wrongBy_0)], cc_X11_wrongIn_1)
set_option maxRecDepth 20000 in
theorem hh_X11_wrongIn_1 : scH Tm invM cc_X11_wrongIn_1 := scCheck_ok (X := xx_X11_wrongIn_1) (nodes := []) (fuel := 4000) ⟨lqX11, fa_cons (⟨⟨2, _, pcv_X11_263, rfl⟩, hh_X11_yearsOf_0⟩) (fa_cons (⟨⟨2, _, pcv_X11_266, rfl⟩, hh_X11_isByDead_1⟩) (fa_cons (⟨⟨3, _, pcv_X11_270, rfl⟩, hh_X11_changesOf_0⟩) (fa_cons (⟨⟨5, _, pcv_X11_273, rfl⟩, hh_X11_wrongBy_0⟩) (fa_nil))))⟩ dtX11_wrongIn (by decide +kernel)
abbrev cc_X11_costIn_1 : scC := (qX11_costIn, 6, [(0, 7), ((-1000), 200), (0, 200)], [.inr (.inr (.inl [0])), .inr (.inr (.inl [7])), .inl (some 0, 0), .inl (some 1, 0), .inl (some 2, 0)], [], [(1, (0, 57024), [], [], [])], [(5, 0, 160), (6, 0, 5)])
set_option maxRecDepth 20000 in
abbrev xx_X11_costIn_1 : scX := (Tm, invM, lnX11, [(276, 0, 11, cc_X11_wrongIn_1)], cc_X11_costIn_1)
set_option maxRecDepth 20000 in
theorem hh_X11_costIn_1 : scH Tm invM cc_X11_costIn_1 := scCheck_ok (X := xx_X11_costIn_1) (nodes := []) (fuel := 4000) ⟨lqX11, fa_cons (⟨⟨4, _, pcv_X11_276, rfl⟩, hh_X11_wrongIn_1⟩) (fa_nil)⟩ dtX11_costIn (by decide +kernel)
abbrev cc_X11_costOf_1 : scC := (qX11_costOf, 7, [(0, 7)], [.inr (.inr (.inl [0])), .inr (.inr (.inl [7])), .inl (some 0, 0)], [], [(1, (0, 57024), [], [], [])], [(5, 0, 160), (6, 0, 5)])
set_option maxRecDepth 20000 in
abbrev xx_X11_costOf_1 : scX := (Tm, invM, lnX11, [(256, 1, 0, cc_X11_has_0), (280, 0, 11, cc_X11_costIn_1)], cc_X11_costOf_1)
set_option maxRecDepth 20000 in
theorem hh_X11_costOf_1 : scH Tm invM cc_X11_costOf_1 := scCheck_ok (X := xx_X11_costOf_1) (nodes := []) (fuel := 4000) ⟨lqX11, fa_cons (⟨pcs_X11_256, hh_X11_has_0⟩) (fa_cons (⟨⟨4, _, pcv_X11_280, rfl⟩, hh_X11_costIn_1⟩) (fa_nil))⟩ dtX11_costOf (by decide +kernel)
abbrev cc_X11_hasPiece_1 : scC := (qX11_hasPiece, 0, [(0, 7)], [.inr (.inr (.inl [7])), .inl (some 0, 0)], [], [(1, (0, 1), [], [], [])], [])
set_option maxRecDepth 20000 in
abbrev xx_X11_hasPiece_1 : scX := (Tm, invM, lnX11, [], cc_X11_hasPiece_1)
set_option maxRecDepth 20000 in
theorem hh_X11_hasPiece_1 : scH Tm invM cc_X11_hasPiece_1 := scCheck_ok (X := xx_X11_hasPiece_1) (nodes := []) (fuel := 4000) ⟨lqX11, fa_nil⟩ dtX11_hasPiece (by decide +kernel)
abbrev cc_X11_dies_1 : scC := (qX11_dies, 8, [(0, 7)], [.inr (.inr (.inl [0])), .inr (.inr (.inl [7])), .inl (some 0, 0)], [], [(0, (0, 0), [], [], [])], [(5, 0, 160), (6, 0, 5), (7, 0, 10), (7, 11, 3)])
set_option maxRecDepth 20000 in
abbrev xx_X11_dies_1 : scX := (Tm, invM, lnX11, [(283, 1, 0, cc_X11_hasPiece_1), (293, 0, 11, cc_X11_costOf_1)], cc_X11_dies_1)
set_option maxRecDepth 20000 in
theorem hh_X11_dies_1 : scH Tm invM cc_X11_dies_1 := scCheck_ok (X := xx_X11_dies_1) (nodes := []) (fuel := 4000) ⟨lqX11, fa_cons (⟨pcs_X11_283, hh_X11_hasPiece_1⟩) (fa_cons (⟨⟨2, _, pcv_X11_293, rfl⟩, hh_X11_costOf_1⟩) (fa_nil))⟩ dtX11_dies (by decide +kernel)
abbrev cc_X11_weekEnds_1 : scC := (qX11_weekEnds, 0, [], [.inr (.inr (.inl [0])), .inr (.inr (.inl [7]))], [], [(1, (0, 1), [], [], [])], [(7, 9, 2)])
set_option maxRecDepth 20000 in
abbrev xx_X11_weekEnds_1 : scX := (Tm, invM, lnX11, [], cc_X11_weekEnds_1)
set_option maxRecDepth 20000 in
theorem hh_X11_weekEnds_1 : scH Tm invM cc_X11_weekEnds_1 := scCheck_ok (X := xx_X11_weekEnds_1) (nodes := []) (fuel := 4000) ⟨lqX11, fa_nil⟩ dtX11_weekEnds (by decide +kernel)
abbrev cc_X11_copies_1 : scC := (qX11_copies, 0, [], [.inr (.inr (.inl [7])), .inr (.inr (.inl [503, 504, 505, 506, 507, 508, 509, 510, 511, 512, 513, 514, 515, 516, 517, 518]))], [], [(0, (0, 0), [], [], [])], [(503, 0, 14), (504, 0, 14), (505, 0, 14), (506, 0, 14), (507, 0, 14), (508, 0, 14), (509, 0, 14), (510, 0, 14), (511, 0, 14), (512, 0, 14), (513, 0, 14), (514, 0, 14), (515, 0, 14), (516, 0, 14), (517, 0, 14), (518, 0, 14)])
set_option maxRecDepth 20000 in
abbrev xx_X11_copies_1 : scX := (Tm, invM, lnX11, [], cc_X11_copies_1)
set_option maxRecDepth 20000 in
theorem hh_X11_copies_1 : scH Tm invM cc_X11_copies_1 := scCheck_ok (X := xx_X11_copies_1) (nodes := []) (fuel := 4000) ⟨lqX11, fa_nil⟩ dtX11_copies (by decide +kernel)
end
-- P 12o
section
-- THE REFERENCE: weeks to come
theorem scInv.put {M : fmM} {k j : Nat} {x : Int32} (hI : scInv Tm invM M) (hb : (scAt (invM k) j).1 ≤ x.toInt ∧ x.toInt ≤ (scAt (invM k) j).2) (hp : jmPr k j = false) : scInv Tm invM (fmI M k j x) := by
  refine ⟨fun k' j' hj => ?_, fun hm => jm_stable (hI.2 hm) (fun k' j' hk => ?_)⟩
  · rw [fmI_at]
    by_cases e : k' = k ∧ j' = j
    · rw [if_pos e, e.1, e.2]
      exact hb
    · rw [if_neg e]
      exact hI.1 k' j' hj
  · show (fmI M k j x).1 k' j' = _
    rw [fmI_at, if_neg]
    rintro ⟨rfl, rfl⟩
    rw [hp] at hk
    cases hk
theorem scInv.p89 {M : fmM} {x : Int32} (hI : scInv Tm invM M) : scInv Tm invM (fmI M 8 9 x) := hI.put (k := 8) (j := 9) (x := x) (scq_t x) rfl
theorem scInv.p47 {M : fmM} {x : Int32} (hI : scInv Tm invM M) : scInv Tm invM (fmI M 0 47 x) := hI.put (k := 0) (j := 47) (x := x) (scq_t x) rfl
theorem scInv.p48 {M : fmM} {x : Int32} (hI : scInv Tm invM M) : scInv Tm invM (fmI M 0 48 x) := hI.put (k := 0) (j := 48) (x := x) (scq_t x) rfl
theorem scFr_nil {M M' : fmM} (h : scFr [] M M') : M' = M := Prod.ext (funext fun k => funext fun j => (h k j rfl).1) (funext fun k => funext fun j => (h k j rfl).2)
theorem sc_sg {i : Int32} {k : Nat} {lo hi : Int} (hi1 : i.toInt = k) (hb : lo ≤ (k : Int) ∧ (k : Int) ≤ hi) : scEk [(lo, hi)] [(k : Int)] := ⟨rfl, fun n e x he hx => by
  cases n with
  | zero =>
    cases he
    cases hx
    exact hb
  | succ n => cases he⟩
theorem sc_a8 {i : Int32} {k : Nat} (hi : i.toInt = k) : scSk [(k : Int)] [.inr (.inr (.inl [0])), .inr (.inr (.inl [8])), .inl (some 0, 0)] [.ref 0, .ref 8, .int i] := ⟨⟨0, by simp, rfl⟩, ⟨8, by simp, rfl⟩, ⟨i, rfl, ⟨(k : Int), rfl, hi.trans (Int.add_zero _).symm⟩⟩, trivial⟩
theorem sc_o1 {T : fmT} {inv : Nat → List scI} {y : fmY} {d : Nat} {en : List scI} {sg : List scV} {fs : List scF} {e : scI} {W : List (Nat × Nat × Nat)} {σ : List Int} {M M' : fmM} {r : fmR} (h : scEnd T inv (y, d, en, sg, fs, [(1, e, [], [], [])], W) σ M r M') : (∃ n : Int32, r = .inl (some (.int n)) ∧ e.1 ≤ n.toInt ∧ n.toInt ≤ e.2) ∧ scInv T inv M' ∧ scFr W M M' := by
  obtain ⟨⟨o, ho, hr, -⟩, h1, h2⟩ := h
  have eo : o = (1, e, [], [], []) := by simpa using ho
  subst eo
  exact ⟨hr, h1, h2⟩
theorem sc_o0 {T : fmT} {inv : Nat → List scI} {y : fmY} {d : Nat} {en : List scI} {sg : List scV} {fs : List scF} {e : scI} {W : List (Nat × Nat × Nat)} {σ : List Int} {M M' : fmM} {r : fmR} (h : scEnd T inv (y, d, en, sg, fs, [(0, e, [], [], [])], W) σ M r M') : r = .inl none ∧ scInv T inv M' ∧ scFr W M M' := by
  obtain ⟨⟨o, ho, hr, -⟩, h1, h2⟩ := h
  have eo : o = (0, e, [], [], []) := by simpa using ho
  subst eo
  exact ⟨hr, h1, h2⟩
theorem s_hours {M : fmM} {Q : fmR → fmM → Prop} {i : Int32} {k : Nat} (hi : i.toInt = k) (hk : k < 8) (hI : scInv Tm invM M) (hq : ∀ n : Int32, Q (.inl (some (.int n))) M) : pvGood Tm 2 qX11_hoursFor [.ref 0, .ref 8, .int i] M Q := (hh_X11_hoursFor_0 M [(k : Int)] _ (sc_sg hi ⟨by omega, by omega⟩) (sc_a8 hi) (fun f hf => by cases hf) hI).imp (fun r M' h => by
  obtain ⟨⟨n, rfl, -, -⟩, h1, h2⟩ := sc_o1 h
  rw [scFr_nil h2]
  exact hq n)
theorem s_dies {M : fmM} {Q : fmR → fmM → Prop} {i : Int32} {k : Nat} (hi : i.toInt = k) (hk : k < 8) (hI : scInv Tm invM M) (hq : ∀ M' : fmM, scInv Tm invM M' → scFr [(5, 0, 160), (6, 0, 5), (8, 0, 10), (8, 11, 3)] M M' → Q (.inl none) M') : pvGood Tm 8 qX11_dies [.ref 0, .ref 8, .int i] M Q := (hh_X11_dies_0 M [(k : Int)] _ (sc_sg hi ⟨by omega, by omega⟩) (sc_a8 hi) (fun f hf => by cases hf) hI).imp (fun r M' h => by
  obtain ⟨rfl, h1, h2⟩ := sc_o0 h
  exact hq M' h1 h2)
theorem s_week {M : fmM} {Q : fmR → fmM → Prop} (hI : scInv Tm invM M) (hq : ∀ (n : Int32) (M' : fmM), scInv Tm invM M' → scFr [(8, 9, 2)] M M' → Q (.inl (some (.int n))) M') : pvGood Tm 0 qX11_weekEnds [.ref 0, .ref 8] M Q := (hh_X11_weekEnds_0 M [] [.ref 0, .ref 8] ⟨rfl, fun n e x he hx => by cases he⟩ ⟨⟨0, by simp, rfl⟩, ⟨8, by simp, rfl⟩, trivial⟩ (fun f hf => by cases hf) hI).imp (fun r M' h => by
  obtain ⟨⟨n, rfl, -, -⟩, h1, h2⟩ := sc_o1 h
  exact hq n M' h1 h2)
theorem s_copies {M : fmM} {Q : fmR → fmM → Prop} (hI : scInv Tm invM M) (hq : ∀ M' : fmM, scInv Tm invM M' → scFr [(8, 0, 14)] M M' → Q (.inl none) M') : pvGood Tm 0 qX11_copies [.ref 7, .ref 8] M Q := (hh_X11_copies_0 M [] [.ref 7, .ref 8] ⟨rfl, fun n e x he hx => by cases he⟩ ⟨⟨7, by simp, rfl⟩, ⟨8, by simp, rfl⟩, trivial⟩ (fun f hf => by cases hf) hI).imp (fun r M' h => by
  obtain ⟨rfl, h1, h2⟩ := sc_o0 h
  exact hq M' h1 h2)
/-- lives whose piece isn't of this week, on the trial row -/
def cnt8 (M : fmM) : Nat := (List.range 8).countP (fun k => decide (¬ M.1 8 (1 + k) = M.1 8 10))
theorem cnt8_lt {M M' : fmM} {k : Nat} (hk : k < 8) (h : ¬ M.1 8 (1 + k) = M.1 8 10) (h1 : M'.1 8 (1 + k) = M.1 8 10) (h2 : ∀ j, j ≠ 9 → j ≠ 1 + k → M'.1 8 j = M.1 8 j) : cnt8 M' < cnt8 M := by
  have e10 : M'.1 8 10 = M.1 8 10 := by
    by_cases e : 10 = 1 + k
    · omega
    · exact h2 10 (by decide) e
  have e : ∀ i, i < 8 → i ≠ k → M'.1 8 (1 + i) = M.1 8 (1 + i) := fun i hi hik => h2 _ (by omega) (by omega)
  unfold cnt8
  rw [e10]
  simp only [List.range, List.range.loop, List.countP_cons, List.countP_nil]
  rcases (show k = 0 ∨ k = 1 ∨ k = 2 ∨ k = 3 ∨ k = 4 ∨ k = 5 ∨ k = 6 ∨ k = 7 by omega) with rfl | rfl | rfl | rfl | rfl | rfl | rfl | rfl
  · rw [e 1 (by decide) (by decide), e 2 (by decide) (by decide), e 3 (by decide) (by decide), e 4 (by decide) (by decide), e 5 (by decide) (by decide), e 6 (by decide) (by decide), e 7 (by decide) (by decide)]
    simp [h, h1]
  · rw [e 0 (by decide) (by decide), e 2 (by decide) (by decide), e 3 (by decide) (by decide), e 4 (by decide) (by decide), e 5 (by decide) (by decide), e 6 (by decide) (by decide), e 7 (by decide) (by decide)]
    simp [h, h1]
  · rw [e 1 (by decide) (by decide), e 0 (by decide) (by decide), e 3 (by decide) (by decide), e 4 (by decide) (by decide), e 5 (by decide) (by decide), e 6 (by decide) (by decide), e 7 (by decide) (by decide)]
    simp [h, h1]
  · rw [e 1 (by decide) (by decide), e 2 (by decide) (by decide), e 0 (by decide) (by decide), e 4 (by decide) (by decide), e 5 (by decide) (by decide), e 6 (by decide) (by decide), e 7 (by decide) (by decide)]
    simp [h, h1]
  · rw [e 1 (by decide) (by decide), e 2 (by decide) (by decide), e 3 (by decide) (by decide), e 0 (by decide) (by decide), e 5 (by decide) (by decide), e 6 (by decide) (by decide), e 7 (by decide) (by decide)]
    simp [h, h1]
  · rw [e 1 (by decide) (by decide), e 2 (by decide) (by decide), e 3 (by decide) (by decide), e 4 (by decide) (by decide), e 0 (by decide) (by decide), e 6 (by decide) (by decide), e 7 (by decide) (by decide)]
    simp [h, h1]
  · rw [e 1 (by decide) (by decide), e 2 (by decide) (by decide), e 3 (by decide) (by decide), e 4 (by decide) (by decide), e 5 (by decide) (by decide), e 0 (by decide) (by decide), e 7 (by decide) (by decide)]
    simp [h, h1]
  · rw [e 1 (by decide) (by decide), e 2 (by decide) (by decide), e 3 (by decide) (by decide), e 4 (by decide) (by decide), e 5 (by decide) (by decide), e 6 (by decide) (by decide), e 0 (by decide) (by decide)]
    simp [h, h1]
def fst8 (M : fmM) (r : Int32) : Prop := r = -1 ∨ ∃ k : Nat, k < 8 ∧ r.toInt = k ∧ ¬ M.1 8 (1 + k) = M.1 8 10
set_option maxRecDepth 20000 in
theorem c_mayWrite0 {M : fmM} {Q : fmR → fmM → Prop} {i : Int32} {k : Nat} (hi : i.toInt = k) (hk : k < 8) (h : M.1 8 (1 + k) = M.1 8 10) (hq : Q (.inl (some (.int 0))) M) : pvGood Tm 1 qX11_mayWrite [.ref 0, .ref 8, .int i] M Q := by
  refine pvGood_of (Nat.le_of_ble_eq_true rfl) ?_
  show pvEv Tm 1 qX11_mayWrite 0 [some (.ref 0), some (.ref 8), some (.int i)] [] M Q
  refine pv_aloadn (pc := 0) (n := 1) 1 rfl rfl (fm_dec dtX11_mayWrite 0 rfl) ?_
  refine pv_iconst (pc := 1) (v := 0) (by decide) (fm_dec dtX11_mayWrite 1 rfl) ?_
  refine pv_iald (k := 8) (n := 14) (pc := 2) (by decide) rfl rfl (fm_inl (by decide)) (fm_dec dtX11_mayWrite 2 rfl) ?_
  refine pv_iloadn (pc := 3) (n := 2) 2 rfl rfl (fm_dec dtX11_mayWrite 3 rfl) ?_
  refine pv_iS2 (d' := 0) (pc := 4) pcs_X11_256 (Nat.le_of_ble_eq_true rfl) (by decide) (fm_dec dtX11_mayWrite 4 rfl) ?_
  refine c_has (fun h15 => ?_) (fun h15 => ?_)
  · refine pv_then1 ?_
    refine pv_if_ne (pc := 7) 26 (by decide) (fm_dec dtX11_mayWrite 5 rfl) (fun _ => ?_) (fun hc7 => by exfalso; revert hc7; decide)
    refine pv_iconst (pc := 26) (v := 0) (by decide) (fm_dec dtX11_mayWrite 17 rfl) ?_
    exact pv_zreturn (pc := 27) rfl (by first | exact Or.inr rfl | exact Or.inl rfl) (fm_dec dtX11_mayWrite 18 rfl) hq
  · refine pv_then1 ?_
    refine pv_if_ne (pc := 7) 26 (by decide) (fm_dec dtX11_mayWrite 5 rfl) (fun hc7 => by exfalso; revert hc7; decide) (fun _ => ?_)
    refine pv_aloadn (pc := 10) (n := 1) 1 rfl rfl (fm_dec dtX11_mayWrite 6 rfl) ?_
    refine pv_iconst (pc := 11) (v := 1) (by decide) (fm_dec dtX11_mayWrite 7 rfl) ?_
    refine pv_iloadn (pc := 12) (n := 2) 2 rfl rfl (fm_dec dtX11_mayWrite 8 rfl) ?_
    refine pv_iadd (pc := 13) (fm_dec dtX11_mayWrite 9 rfl) ?_
    refine pv_iald (k := 8) (n := 14) (pc := 14) (by decide) rfl rfl (ix_in (ix_1 hi (by omega)) (by omega)) (fm_dec dtX11_mayWrite 10 rfl) ?_
    refine pv_aloadn (pc := 15) (n := 1) 1 rfl rfl (fm_dec dtX11_mayWrite 11 rfl) ?_
    refine pv_bipush (pc := 16) (v := 10) (by decide) (fm_dec dtX11_mayWrite 12 rfl) ?_
    refine pv_iald (k := 8) (n := 14) (pc := 18) (by decide) rfl rfl (fm_inl (by decide)) (fm_dec dtX11_mayWrite 13 rfl) ?_
    refine pv_icmp_eq (pc := 19) 26 (by decide) (fm_dec dtX11_mayWrite 14 rfl) (fun _ => ?_) (fun hc19 => by exfalso; exact hc19 (by rw [i32_cl (ix_1 hi (by omega))]; exact h))
    refine pv_iconst (pc := 26) (v := 0) (by decide) (fm_dec dtX11_mayWrite 17 rfl) ?_
    exact pv_zreturn (pc := 27) rfl (by first | exact Or.inr rfl | exact Or.inl rfl) (fm_dec dtX11_mayWrite 18 rfl) hq
set_option maxRecDepth 20000 in
theorem c_saved0 {M : fmM} {Q : fmR → fmM → Prop} {i : Int32} {k : Nat} (hi : i.toInt = k) (hk : k < 8) (h : M.1 8 (1 + k) = M.1 8 10) (hq : Q (.inl (some (.int 0))) M) : pvGood Tm 7 qX11_saved [.ref 0, .ref 8, .int i] M Q := by
  refine pvGood_of (Nat.le_of_ble_eq_true rfl) ?_
  show pvEv Tm 7 qX11_saved 0 [some (.ref 0), some (.ref 8), some (.int i)] [] M Q
  refine pv_aloadn (pc := 0) (n := 0) 0 rfl rfl (fm_dec dtX11_saved 0 rfl) ?_
  refine pv_aloadn (pc := 1) (n := 1) 1 rfl rfl (fm_dec dtX11_saved 1 rfl) ?_
  refine pv_iloadn (pc := 2) (n := 2) 2 rfl rfl (fm_dec dtX11_saved 2 rfl) ?_
  refine pv_invV2 (k := 0) (d' := 1) (pc := 3) pcv_X11_296 (by decide) rfl (Nat.le_of_ble_eq_true rfl) (by decide) (fm_dec dtX11_saved 3 rfl) ?_
  refine c_mayWrite0 hi hk h ?_
  refine pv_then1 ?_
  refine pv_if_eq (pc := 6) 46 (by decide) (fm_dec dtX11_saved 4 rfl) (fun _ => ?_) (fun hc6 => by exfalso; revert hc6; decide)
  refine pv_iconst (pc := 46) (v := 0) (by decide) (fm_dec dtX11_saved 30 rfl) ?_
  exact pv_ireturn (pc := 47) rfl (fm_dec dtX11_saved 31 rfl) hq
theorem s_saved {M : fmM} {Q : fmR → fmM → Prop} {i : Int32} {k : Nat} (hi : i.toInt = k) (hk : k < 8) (hI : scInv Tm invM M) (hq : ∀ (r : Int32) (M' : fmM), scInv Tm invM M' → scFr [(5, 0, 160), (6, 0, 5)] M M' → (¬ r = 0 → ¬ M.1 8 (1 + k) = M.1 8 10) → Q (.inl (some (.int r))) M') : pvGood Tm 8 qX11_saved [.ref 0, .ref 8, .int i] M Q := by
  by_cases h : M.1 8 (1 + k) = M.1 8 10
  · exact (c_saved0 hi hk h (hq 0 M hI scFr.rfl (fun h => absurd rfl h))).up (by decide)
  · refine (hh_X11_saved_0 M [(k : Int)] _ (sc_sg hi ⟨by omega, by omega⟩) (sc_a8 hi) (fun f hf => by cases hf) hI).imp (fun r M' h9 => ?_)
    obtain ⟨⟨n, rfl, -, -⟩, h1, h2⟩ := sc_o1 h9
    exact hq n M' h1 h2 (fun _ => h)
set_option maxRecDepth 20000 in
theorem fo_loop {Q : fmR → fmM → Prop} {M0 : fmM} {hours : Int32} (hq : ∀ (r : Int32) (M' : fmM), scInv Tm invM M' → scFr [(5, 0, 160), (6, 0, 5)] M0 M' → fst8 M0 r → Q (.inl (some (.int r))) M') : ∀ (m : Nat) (M : fmM) (k : Nat) (ii best : Int32), ii.toInt = k → k + m = 8 → scInv Tm invM M → scFr [(5, 0, 160), (6, 0, 5)] M0 M → fst8 M0 best → pvEv Tm 9 qX11_firstOf 5 [some (.ref 0), some (.ref 8), some (.int hours), some (.int best), some (.int ii)] [] M Q := by
  intro m
  induction m using Nat.strongRecOn with
  | _ m ih =>
    intro M k ii best hii hm hI hF hb
    refine pv_iload (pc := 5) (i := 4) rfl (fm_dec dtX11_firstOf 4 rfl) ?_
    refine pv_aloadn (pc := 7) (n := 0) 0 rfl rfl (fm_dec dtX11_firstOf 5 rfl) ?_
    refine pv_getR (k := 0) (j := 12) (ci := 11) (pc := 8) 4 rfl (by decide) pfl_X11_23 (by decide) rfl (by decide) (fm_dec dtX11_firstOf 6 rfl) ?_
    refine pv_iconst (pc := 11) (v := 0) (by decide) (fm_dec dtX11_firstOf 7 rfl) ?_
    refine pv_iald (k := 4) (n := 6) (pc := 12) (by decide) rfl rfl (fm_inl (by decide)) (fm_dec dtX11_firstOf 8 rfl) ?_
    refine pv_icmp_ge (pc := 13) 90 (by decide) (fm_dec dtX11_firstOf 9 rfl) (fun hc13 => ?_) (fun hc13 => ?_)
    · refine pv_iloadn (pc := 90) (n := 3) 3 rfl rfl (fm_dec dtX11_firstOf 53 rfl) ?_
      exact pv_ireturn (pc := 91) rfl (fm_dec dtX11_firstOf 54 rfl) (hq _ M hI hF hb)
    · have hk8 : k < 8 := (by rw [sc_le] at hc13; have h9 : (M.1 4 0).toInt ≤ 8 := (hI.1 4 0 (by decide)).2; have h8 : (M.1 4 (Int32.toNatClampNeg 0)).toInt = (M.1 4 0).toInt := rfl; omega)
      have e8 : ∀ j, M.1 8 j = M0.1 8 j := fun j => (hF 8 j rfl).1
      refine pv_aloadn (pc := 16) (n := 0) 0 rfl rfl (fm_dec dtX11_firstOf 10 rfl) ?_
      refine pv_aloadn (pc := 17) (n := 1) 1 rfl rfl (fm_dec dtX11_firstOf 11 rfl) ?_
      refine pv_iload (pc := 18) (i := 4) rfl (fm_dec dtX11_firstOf 12 rfl) ?_
      refine pv_invV2 (k := 0) (d' := 8) (pc := 20) pcv_X11_355 (by decide) rfl (Nat.le_of_ble_eq_true rfl) (by decide) (fm_dec dtX11_firstOf 13 rfl) ?_
      refine s_saved hii hk8 hI (fun r20 M20 hI20 f20 g20 => ?_)
      refine pv_then1 ?_
      refine pv_if_eq (pc := 23) 84 (by decide) (fm_dec dtX11_firstOf 14 rfl) (fun hc23 => ?_) (fun hc23 => ?_)
      · refine pv_iincc (pc := 84) 4 1 (by decide) rfl (by decide) rfl (fm_dec dtX11_firstOf 51 rfl) ?_
        dsimp only [List.set_cons_zero, List.set_cons_succ]
        refine pv_goto (pc := 87) 5 (by decide) (fm_dec dtX11_firstOf 52 rfl) ?_
        exact ih (8 - (k + 1)) (by omega) M20 (k + 1) _ _ (i32_p1 hii (by omega)) (by omega) hI20 ((hF).trans f20 rfl) hb
      · refine pv_aloadn (pc := 26) (n := 0) 0 rfl rfl (fm_dec dtX11_firstOf 15 rfl) ?_
        refine pv_aloadn (pc := 27) (n := 1) 1 rfl rfl (fm_dec dtX11_firstOf 16 rfl) ?_
        refine pv_iload (pc := 28) (i := 4) rfl (fm_dec dtX11_firstOf 17 rfl) ?_
        refine pv_invV2 (k := 0) (d' := 2) (pc := 30) pcv_X11_290 (by decide) rfl (Nat.le_of_ble_eq_true rfl) (by decide) (fm_dec dtX11_firstOf 18 rfl) ?_
        refine s_hours hii hk8 hI20 (fun n9 => ?_)
        refine pv_then1 ?_
        refine pv_iloadn (pc := 33) (n := 2) 2 rfl rfl (fm_dec dtX11_firstOf 19 rfl) ?_
        refine pv_icmp_le (pc := 34) 40 (by decide) (fm_dec dtX11_firstOf 20 rfl) (fun hc34 => ?_) (fun hc34 => ?_)
        · refine pv_iloadn (pc := 40) (n := 3) 3 rfl rfl (fm_dec dtX11_firstOf 22 rfl) ?_
          refine pv_iconst (pc := 41) (v := (-1)) (by decide) (fm_dec dtX11_firstOf 23 rfl) ?_
          refine pv_icmp_eq (pc := 42) 81 (by decide) (fm_dec dtX11_firstOf 24 rfl) (fun hc42 => ?_) (fun hc42 => ?_)
          · refine pv_iload (pc := 81) (i := 4) rfl (fm_dec dtX11_firstOf 49 rfl) ?_
            refine pv_istoren (pc := 83) (n := 3) 3 rfl (by decide) rfl (fm_dec dtX11_firstOf 50 rfl) ?_
            dsimp only [List.set_cons_zero, List.set_cons_succ]
            refine pv_iincc (pc := 84) 4 1 (by decide) rfl (by decide) rfl (fm_dec dtX11_firstOf 51 rfl) ?_
            dsimp only [List.set_cons_zero, List.set_cons_succ]
            refine pv_goto (pc := 87) 5 (by decide) (fm_dec dtX11_firstOf 52 rfl) ?_
            exact ih (8 - (k + 1)) (by omega) M20 (k + 1) _ _ (i32_p1 hii (by omega)) (by omega) hI20 ((hF).trans f20 rfl) (Or.inr ⟨k, hk8, hii, fun h9 => g20 hc23 (by rw [e8 _, e8 _]; exact h9)⟩)
          · obtain ⟨kb, hkb8, hkb, -⟩ := hb.resolve_left hc42
            refine pv_aloadn (pc := 45) (n := 0) 0 rfl rfl (fm_dec dtX11_firstOf 25 rfl) ?_
            refine pv_aloadn (pc := 46) (n := 1) 1 rfl rfl (fm_dec dtX11_firstOf 26 rfl) ?_
            refine pv_iload (pc := 47) (i := 4) rfl (fm_dec dtX11_firstOf 27 rfl) ?_
            refine pv_invV2 (k := 0) (d' := 8) (pc := 49) pcv_X11_355 (by decide) rfl (Nat.le_of_ble_eq_true rfl) (by decide) (fm_dec dtX11_firstOf 28 rfl) ?_
            refine s_saved hii hk8 hI20 (fun r49 M49 hI49 f49 g49 => ?_)
            refine pv_then1 ?_
            refine pv_i2l (pc := 52) (fm_dec dtX11_firstOf 29 rfl) ?_
            refine pv_aloadn (pc := 53) (n := 0) 0 rfl rfl (fm_dec dtX11_firstOf 30 rfl) ?_
            refine pv_aloadn (pc := 54) (n := 1) 1 rfl rfl (fm_dec dtX11_firstOf 31 rfl) ?_
            refine pv_iloadn (pc := 55) (n := 3) 3 rfl rfl (fm_dec dtX11_firstOf 32 rfl) ?_
            refine pv_invV2 (k := 0) (d' := 2) (pc := 56) pcv_X11_290 (by decide) rfl (Nat.le_of_ble_eq_true rfl) (by decide) (fm_dec dtX11_firstOf 33 rfl) ?_
            refine s_hours hkb hkb8 hI49 (fun n9 => ?_)
            refine pv_then1 ?_
            refine pv_i2l (pc := 59) (fm_dec dtX11_firstOf 34 rfl) ?_
            refine pv_lmul (pc := 60) (fm_dec dtX11_firstOf 35 rfl) ?_
            refine pv_aloadn (pc := 61) (n := 0) 0 rfl rfl (fm_dec dtX11_firstOf 36 rfl) ?_
            refine pv_aloadn (pc := 62) (n := 1) 1 rfl rfl (fm_dec dtX11_firstOf 37 rfl) ?_
            refine pv_iloadn (pc := 63) (n := 3) 3 rfl rfl (fm_dec dtX11_firstOf 38 rfl) ?_
            refine pv_invV2 (k := 0) (d' := 8) (pc := 64) pcv_X11_355 (by decide) rfl (Nat.le_of_ble_eq_true rfl) (by decide) (fm_dec dtX11_firstOf 39 rfl) ?_
            refine s_saved hkb hkb8 hI49 (fun r64 M64 hI64 f64 g64 => ?_)
            refine pv_then1 ?_
            refine pv_i2l (pc := 67) (fm_dec dtX11_firstOf 40 rfl) ?_
            refine pv_aloadn (pc := 68) (n := 0) 0 rfl rfl (fm_dec dtX11_firstOf 41 rfl) ?_
            refine pv_aloadn (pc := 69) (n := 1) 1 rfl rfl (fm_dec dtX11_firstOf 42 rfl) ?_
            refine pv_iload (pc := 70) (i := 4) rfl (fm_dec dtX11_firstOf 43 rfl) ?_
            refine pv_invV2 (k := 0) (d' := 2) (pc := 72) pcv_X11_290 (by decide) rfl (Nat.le_of_ble_eq_true rfl) (by decide) (fm_dec dtX11_firstOf 44 rfl) ?_
            refine s_hours hii hk8 hI64 (fun n9 => ?_)
            refine pv_then1 ?_
            refine pv_i2l (pc := 75) (fm_dec dtX11_firstOf 45 rfl) ?_
            refine pv_lmul (pc := 76) (fm_dec dtX11_firstOf 46 rfl) ?_
            refine pv_lcmp (pc := 77) (fm_dec dtX11_firstOf 47 rfl) ?_
            refine pv_if_le (pc := 78) 84 (by decide) (fm_dec dtX11_firstOf 48 rfl) (fun hc78 => ?_) (fun hc78 => ?_)
            · refine pv_iincc (pc := 84) 4 1 (by decide) rfl (by decide) rfl (fm_dec dtX11_firstOf 51 rfl) ?_
              dsimp only [List.set_cons_zero, List.set_cons_succ]
              refine pv_goto (pc := 87) 5 (by decide) (fm_dec dtX11_firstOf 52 rfl) ?_
              exact ih (8 - (k + 1)) (by omega) M64 (k + 1) _ _ (i32_p1 hii (by omega)) (by omega) hI64 ((((hF).trans f20 rfl).trans f49 rfl).trans f64 rfl) hb
            · refine pv_iload (pc := 81) (i := 4) rfl (fm_dec dtX11_firstOf 49 rfl) ?_
              refine pv_istoren (pc := 83) (n := 3) 3 rfl (by decide) rfl (fm_dec dtX11_firstOf 50 rfl) ?_
              dsimp only [List.set_cons_zero, List.set_cons_succ]
              refine pv_iincc (pc := 84) 4 1 (by decide) rfl (by decide) rfl (fm_dec dtX11_firstOf 51 rfl) ?_
              dsimp only [List.set_cons_zero, List.set_cons_succ]
              refine pv_goto (pc := 87) 5 (by decide) (fm_dec dtX11_firstOf 52 rfl) ?_
              exact ih (8 - (k + 1)) (by omega) M64 (k + 1) _ _ (i32_p1 hii (by omega)) (by omega) hI64 ((((hF).trans f20 rfl).trans f49 rfl).trans f64 rfl) (Or.inr ⟨k, hk8, hii, fun h9 => g20 hc23 (by rw [e8 _, e8 _]; exact h9)⟩)
        · refine pv_goto (pc := 37) 84 (by decide) (fm_dec dtX11_firstOf 21 rfl) ?_
          refine pv_iincc (pc := 84) 4 1 (by decide) rfl (by decide) rfl (fm_dec dtX11_firstOf 51 rfl) ?_
          dsimp only [List.set_cons_zero, List.set_cons_succ]
          refine pv_goto (pc := 87) 5 (by decide) (fm_dec dtX11_firstOf 52 rfl) ?_
          exact ih (8 - (k + 1)) (by omega) M20 (k + 1) _ _ (i32_p1 hii (by omega)) (by omega) hI20 ((hF).trans f20 rfl) hb
set_option maxRecDepth 20000 in
theorem s_first {M : fmM} {Q : fmR → fmM → Prop} {hours : Int32} (hI : scInv Tm invM M) (hq : ∀ (r : Int32) (M' : fmM), scInv Tm invM M' → scFr [(5, 0, 160), (6, 0, 5)] M M' → fst8 M r → Q (.inl (some (.int r))) M') : pvGood Tm 9 qX11_firstOf [.ref 0, .ref 8, .int hours] M Q := by
  refine pvGood_of (Nat.le_of_ble_eq_true rfl) ?_
  show pvEv Tm 9 qX11_firstOf 0 [some (.ref 0), some (.ref 8), some (.int hours), none, none] [] M Q
  refine pv_iconst (pc := 0) (v := (-1)) (by decide) (fm_dec dtX11_firstOf 0 rfl) ?_
  refine pv_istoren (pc := 1) (n := 3) 3 rfl (by decide) rfl (fm_dec dtX11_firstOf 1 rfl) ?_
  dsimp only [List.set_cons_zero, List.set_cons_succ]
  refine pv_iconst (pc := 2) (v := 0) (by decide) (fm_dec dtX11_firstOf 2 rfl) ?_
  refine pv_istore (pc := 3) (i := 4) (by decide) rfl (fm_dec dtX11_firstOf 3 rfl) ?_
  dsimp only [List.set_cons_zero, List.set_cons_succ]
  exact fo_loop hq 8 M 0 0 (-1) (by decide) (by decide) hI scFr.rfl (Or.inl rfl)
theorem wr_ok {M : fmM} {v : Int32} {k : Nat} (hk : k < 8) (hI : scInv Tm invM M) : scInv Tm invM (fmI (fmI M 8 9 v) 8 (1 + k) (M.1 8 10)) ∧ scFr [(8, 0, 14)] M (fmI (fmI M 8 9 v) 8 (1 + k) (M.1 8 10)) ∧ (fmI (fmI M 8 9 v) 8 (1 + k) (M.1 8 10)).1 8 (1 + k) = M.1 8 10 ∧ ∀ j, j ≠ 9 → j ≠ 1 + k → (fmI (fmI M 8 9 v) 8 (1 + k) (M.1 8 10)).1 8 j = M.1 8 j := by
  have hb : ∀ k, k < 8 → scAt (invM 8) (1 + k) = (-1000, 200) ∧ jmPr 8 (1 + k) = false := by decide
  have h10 : 0 ≤ (M.1 8 10).toInt ∧ (M.1 8 10).toInt ≤ 200 := hI.1 8 10 (by decide)
  refine ⟨hI.p89.put ?_ (hb k hk).2, (scFr.rfl.toI (scIn_of (8, 0, 14) List.mem_cons_self ⟨rfl, Nat.zero_le _, by decide⟩)).toI (scIn_of (8, 0, 14) List.mem_cons_self ⟨rfl, Nat.zero_le _, by show 1 + k < 0 + 14; omega⟩), fmI_s _ _ _ _, fun j a b => ?_⟩
  · rw [(hb k hk).1]
    exact ⟨by show -1000 ≤ _; omega, h10.2⟩
  · rw [fmI_j _ _ b, fmI_j _ _ a]
set_option maxRecDepth 20000 in
theorem s_writes {M : fmM} {Q : fmR → fmM → Prop} {i : Int32} {k : Nat} (hi : i.toInt = k) (hk : k < 8) (hI : scInv Tm invM M) (hq : ∀ M' : fmM, scInv Tm invM M' → scFr [(8, 0, 14)] M M' → M'.1 8 (1 + k) = M.1 8 10 → (∀ j, j ≠ 9 → j ≠ 1 + k → M'.1 8 j = M.1 8 j) → Q (.inl none) M') : pvGood Tm 3 qX11_writes [.ref 0, .ref 8, .int i] M Q := by
  refine pvGood_of (Nat.le_of_ble_eq_true rfl) ?_
  show pvEv Tm 3 qX11_writes 0 [some (.ref 0), some (.ref 8), some (.int i)] [] M Q
  refine pv_aloadn (pc := 0) (n := 1) 1 rfl rfl (fm_dec dtX11_writes 0 rfl) ?_
  refine pv_bipush (pc := 1) (v := 9) (by decide) (fm_dec dtX11_writes 1 rfl) ?_
  refine pv_dup2 (pc := 3) rfl rfl (fm_dec dtX11_writes 2 rfl) ?_
  refine pv_iald (k := 8) (n := 14) (pc := 4) (by decide) rfl rfl (fm_inl (by decide)) (fm_dec dtX11_writes 3 rfl) ?_
  refine pv_aloadn (pc := 5) (n := 0) 0 rfl rfl (fm_dec dtX11_writes 4 rfl) ?_
  refine pv_aloadn (pc := 6) (n := 1) 1 rfl rfl (fm_dec dtX11_writes 5 rfl) ?_
  refine pv_iloadn (pc := 7) (n := 2) 2 rfl rfl (fm_dec dtX11_writes 6 rfl) ?_
  refine pv_invV2 (k := 0) (d' := 2) (pc := 8) pcv_X11_290 (by decide) rfl (Nat.le_of_ble_eq_true rfl) (by decide) (fm_dec dtX11_writes 7 rfl) ?_
  refine s_hours hi hk hI (fun n9 => ?_)
  refine pv_then1 ?_
  refine pv_isub (pc := 11) (fm_dec dtX11_writes 8 rfl) ?_
  refine pv_iast (k := 8) (n := 14) (pc := 12) (by decide) rfl rfl (fm_inl (by decide)) (fm_dec dtX11_writes 9 rfl) ?_
  refine pv_aloadn (pc := 13) (n := 1) 1 rfl rfl (fm_dec dtX11_writes 10 rfl) ?_
  refine pv_iconst (pc := 14) (v := 1) (by decide) (fm_dec dtX11_writes 11 rfl) ?_
  refine pv_iloadn (pc := 15) (n := 2) 2 rfl rfl (fm_dec dtX11_writes 12 rfl) ?_
  refine pv_iadd (pc := 16) (fm_dec dtX11_writes 13 rfl) ?_
  refine pv_aloadn (pc := 17) (n := 1) 1 rfl rfl (fm_dec dtX11_writes 14 rfl) ?_
  refine pv_bipush (pc := 18) (v := 10) (by decide) (fm_dec dtX11_writes 15 rfl) ?_
  refine pv_iald (k := 8) (n := 14) (pc := 20) (by decide) rfl rfl (fm_inl (by decide)) (fm_dec dtX11_writes 16 rfl) ?_
  refine pv_iast (k := 8) (n := 14) (pc := 21) (by decide) rfl rfl (ix_in (ix_1 hi (by omega)) (by omega)) (fm_dec dtX11_writes 17 rfl) ?_
  exact pv_return (pc := 22) rfl (fm_dec dtX11_writes 18 rfl) (by rw [i32_cl (ix_1 hi (by omega))]; have h9 := wr_ok (v := M.1 8 9 - n9) hk hI; exact hq _ h9.1 h9.2.1 h9.2.2.1 h9.2.2.2)
set_option maxRecDepth 20000 in
theorem yb_3 {Q : fmR → fmM → Prop} {M0 : fmM} {seed weeks ww : Int32} (hq : ∀ (M' : fmM) (nx' : Int32), scInv Tm invM M' → scFr [(0, 47, 2), (5, 0, 160), (6, 0, 5), (8, 0, 14)] M0 M' → pvEv Tm 12 qX11_yearsBy 176 [some (.ref 0), some (.int seed), some (.int weeks), some (.int ww), some (.int nx')] [] M' Q) : ∀ (m : Nat) (M : fmM) (nx : Int32), cnt8 M ≤ m → scInv Tm invM M → scFr [(0, 47, 2), (5, 0, 160), (6, 0, 5), (8, 0, 14)] M0 M → fst8 M nx → pvEv Tm 12 qX11_yearsBy 130 [some (.ref 0), some (.int seed), some (.int weeks), some (.int ww), some (.int nx)] [] M Q := by
  intro m
  induction m using Nat.strongRecOn with
  | _ m ih =>
    intro M nx hm hI hF hb
    refine pv_iload (pc := 130) (i := 4) rfl (fm_dec dtX11_yearsBy 69 rfl) ?_
    refine pv_iconst (pc := 132) (v := (-1)) (by decide) (fm_dec dtX11_yearsBy 70 rfl) ?_
    refine pv_icmp_eq (pc := 133) 176 (by decide) (fm_dec dtX11_yearsBy 71 rfl) (fun hc133 => ?_) (fun hc133 => ?_)
    · exact hq M nx hI hF
    · obtain ⟨kb, hkb8, hkb, hkn⟩ := hb.resolve_left hc133
      refine pv_aloadn (pc := 136) (n := 0) 0 rfl rfl (fm_dec dtX11_yearsBy 72 rfl) ?_
      refine pv_aloadn (pc := 137) (n := 0) 0 rfl rfl (fm_dec dtX11_yearsBy 73 rfl) ?_
      refine pv_getR (k := 0) (j := 28) (ci := 11) (pc := 138) 8 rfl (by decide) pfl_X11_64 (by decide) rfl (by decide) (fm_dec dtX11_yearsBy 74 rfl) ?_
      refine pv_iload (pc := 141) (i := 4) rfl (fm_dec dtX11_yearsBy 75 rfl) ?_
      refine pv_invV2 (k := 0) (d' := 3) (pc := 143) pcv_X11_299 (by decide) rfl (Nat.le_of_ble_eq_true rfl) (by decide) (fm_dec dtX11_yearsBy 76 rfl) ?_
      refine s_writes hkb hkb8 hI (fun M143 hI143 f143 g1 g2 => ?_)
      refine pv_then0 ?_
      refine pv_aloadn (pc := 146) (n := 0) 0 rfl rfl (fm_dec dtX11_yearsBy 77 rfl) ?_
      refine pv_dup (pc := 147) rfl (fm_dec dtX11_yearsBy 78 rfl) ?_
      refine pv_getI (k := 0) (j := 48) (ci := 11) (pc := 148) pfl_X11_429 (by decide) rfl (by decide) (fm_dec dtX11_yearsBy 79 rfl) ?_
      refine pv_iconst (pc := 151) (v := 1) (by decide) (fm_dec dtX11_yearsBy 80 rfl) ?_
      refine pv_iadd (pc := 152) (fm_dec dtX11_yearsBy 81 rfl) ?_
      refine pv_putI (k := 0) (j := 48) (ci := 11) (pc := 153) pfl_X11_429 (by decide) rfl (by decide) (fm_dec dtX11_yearsBy 82 rfl) ?_
      refine pv_aloadn (pc := 156) (n := 0) 0 rfl rfl (fm_dec dtX11_yearsBy 83 rfl) ?_
      refine pv_aloadn (pc := 157) (n := 0) 0 rfl rfl (fm_dec dtX11_yearsBy 84 rfl) ?_
      refine pv_getR (k := 0) (j := 28) (ci := 11) (pc := 158) 8 rfl (by decide) pfl_X11_64 (by decide) rfl (by decide) (fm_dec dtX11_yearsBy 85 rfl) ?_
      refine pv_aloadn (pc := 161) (n := 0) 0 rfl rfl (fm_dec dtX11_yearsBy 86 rfl) ?_
      refine pv_getR (k := 0) (j := 28) (ci := 11) (pc := 162) 8 rfl (by decide) pfl_X11_64 (by decide) rfl (by decide) (fm_dec dtX11_yearsBy 87 rfl) ?_
      refine pv_bipush (pc := 165) (v := 9) (by decide) (fm_dec dtX11_yearsBy 88 rfl) ?_
      refine pv_iald (k := 8) (n := 14) (pc := 167) (by decide) rfl rfl (fm_inl (by decide)) (fm_dec dtX11_yearsBy 89 rfl) ?_
      refine pv_invV2 (k := 0) (d' := 9) (pc := 168) pcv_X11_358 (by decide) rfl (Nat.le_of_ble_eq_true rfl) (by decide) (fm_dec dtX11_yearsBy 90 rfl) ?_
      refine s_first (M := fmI M143 0 48 (M143.1 0 48 + 1)) hI143.p48 (fun r168 M168 hI168 f168 b168 => ?_)
      refine pv_then1 ?_
      refine pv_istore (pc := 171) (i := 4) (by decide) rfl (fm_dec dtX11_yearsBy 91 rfl) ?_
      dsimp only [List.set_cons_zero, List.set_cons_succ]
      refine pv_goto (pc := 173) 130 (by decide) (fm_dec dtX11_yearsBy 92 rfl) ?_
      have e8 : ∀ j, M168.1 8 j = M143.1 8 j := fun j => ((f168 8 j rfl).1).trans (by rw [fmI_k _ _ (by decide)])
      have hlt : cnt8 M168 < cnt8 M := cnt8_lt hkb8 hkn (by rw [e8]; exact g1) (fun j a b => by rw [e8]; exact g2 j a b)
      exact ih (cnt8 M168) (by omega) M168 _ (Nat.le_refl _) hI168 (((hF.trans f143 rfl).toI (scIn_of (0, 47, 2) List.mem_cons_self ⟨rfl, by decide, by decide⟩)).trans f168 rfl) (b168.imp id (fun ⟨q, q1, q2, q3⟩ => ⟨q, q1, q2, fun h9 => q3 (by have a1 := e8 (1 + q); have a2 := e8 10; rw [fmI_k _ _ (by decide)]; rw [← a1, ← a2]; exact h9)⟩))
set_option maxRecDepth 20000 in
theorem yb_2 {Q : fmR → fmM → Prop} {M0 : fmM} {seed weeks ww : Int32} (hq : ∀ (M' : fmM) (ii' : Int32), scInv Tm invM M' → scFr [(0, 47, 2), (5, 0, 160), (6, 0, 5), (8, 0, 14)] M0 M' → pvEv Tm 12 qX11_yearsBy 113 [some (.ref 0), some (.int seed), some (.int weeks), some (.int ww), some (.int ii')] [] M' Q) : ∀ (m : Nat) (M : fmM) (k : Nat) (ii : Int32), ii.toInt = k → k + m = 8 → scInv Tm invM M → scFr [(0, 47, 2), (5, 0, 160), (6, 0, 5), (8, 0, 14)] M0 M → pvEv Tm 12 qX11_yearsBy 31 [some (.ref 0), some (.int seed), some (.int weeks), some (.int ww), some (.int ii)] [] M Q := by
  intro m
  induction m using Nat.strongRecOn with
  | _ m ih =>
    intro M k ii hii hm hI hF
    refine pv_iload (pc := 31) (i := 4) rfl (fm_dec dtX11_yearsBy 18 rfl) ?_
    refine pv_aloadn (pc := 33) (n := 0) 0 rfl rfl (fm_dec dtX11_yearsBy 19 rfl) ?_
    refine pv_getR (k := 0) (j := 12) (ci := 11) (pc := 34) 4 rfl (by decide) pfl_X11_23 (by decide) rfl (by decide) (fm_dec dtX11_yearsBy 20 rfl) ?_
    refine pv_iconst (pc := 37) (v := 0) (by decide) (fm_dec dtX11_yearsBy 21 rfl) ?_
    refine pv_iald (k := 4) (n := 6) (pc := 38) (by decide) rfl rfl (fm_inl (by decide)) (fm_dec dtX11_yearsBy 22 rfl) ?_
    refine pv_icmp_ge (pc := 39) 113 (by decide) (fm_dec dtX11_yearsBy 23 rfl) (fun hc39 => ?_) (fun hc39 => ?_)
    · exact hq M ii hI hF
    · have hk8 : k < 8 := (by rw [sc_le] at hc39; have h9 : (M.1 4 0).toInt ≤ 8 := (hI.1 4 0 (by decide)).2; have h8 : (M.1 4 (Int32.toNatClampNeg 0)).toInt = (M.1 4 0).toInt := rfl; omega)
      refine pv_aloadn (pc := 42) (n := 0) 0 rfl rfl (fm_dec dtX11_yearsBy 24 rfl) ?_
      refine pv_getR (k := 0) (j := 28) (ci := 11) (pc := 43) 8 rfl (by decide) pfl_X11_64 (by decide) rfl (by decide) (fm_dec dtX11_yearsBy 25 rfl) ?_
      refine pv_iconst (pc := 46) (v := 0) (by decide) (fm_dec dtX11_yearsBy 26 rfl) ?_
      refine pv_iald (k := 8) (n := 14) (pc := 47) (by decide) rfl rfl (fm_inl (by decide)) (fm_dec dtX11_yearsBy 27 rfl) ?_
      refine pv_iload (pc := 48) (i := 4) rfl (fm_dec dtX11_yearsBy 28 rfl) ?_
      refine pv_iS2 (d' := 0) (pc := 50) pcs_X11_256 (Nat.le_of_ble_eq_true rfl) (by decide) (fm_dec dtX11_yearsBy 29 rfl) ?_
      refine c_has (fun h15 => ?_) (fun h15 => ?_)
      · refine pv_then1 ?_
        refine pv_if_eq (pc := 53) 59 (by decide) (fm_dec dtX11_yearsBy 30 rfl) (fun hc53 => by exfalso; revert hc53; decide) (fun _ => ?_)
        refine pv_goto (pc := 56) 107 (by decide) (fm_dec dtX11_yearsBy 31 rfl) ?_
        refine pv_iincc (pc := 107) 4 1 (by decide) rfl (by decide) rfl (fm_dec dtX11_yearsBy 58 rfl) ?_
        dsimp only [List.set_cons_zero, List.set_cons_succ]
        refine pv_goto (pc := 110) 31 (by decide) (fm_dec dtX11_yearsBy 59 rfl) ?_
        exact ih (8 - (k + 1)) (by omega) M (k + 1) _ (i32_p1 hii (by omega)) (by omega) hI (hF)
      · refine pv_then1 ?_
        refine pv_if_eq (pc := 53) 59 (by decide) (fm_dec dtX11_yearsBy 30 rfl) (fun _ => ?_) (fun hc53 => by exfalso; revert hc53; decide)
        refine pv_aloadn (pc := 59) (n := 0) 0 rfl rfl (fm_dec dtX11_yearsBy 32 rfl) ?_
        refine pv_aloadn (pc := 60) (n := 0) 0 rfl rfl (fm_dec dtX11_yearsBy 33 rfl) ?_
        refine pv_getI (k := 0) (j := 47) (ci := 11) (pc := 61) pfl_X11_426 (by decide) rfl (by decide) (fm_dec dtX11_yearsBy 34 rfl) ?_
        refine pv_ldcw (pc := 64) pkc_X11_432 (fm_dec dtX11_yearsBy 35 rfl) ?_
        refine pv_imul (pc := 67) (fm_dec dtX11_yearsBy 36 rfl) ?_
        refine pv_sipush (pc := 68) (v := 12345) (by decide) (fm_dec dtX11_yearsBy 37 rfl) ?_
        refine pv_iadd (pc := 71) (fm_dec dtX11_yearsBy 38 rfl) ?_
        refine pv_putI (k := 0) (j := 47) (ci := 11) (pc := 72) pfl_X11_426 (by decide) rfl (by decide) (fm_dec dtX11_yearsBy 39 rfl) ?_
        refine pv_aloadn (pc := 75) (n := 0) 0 rfl rfl (fm_dec dtX11_yearsBy 40 rfl) ?_
        refine pv_getI (k := 0) (j := 47) (ci := 11) (pc := 76) pfl_X11_426 (by decide) rfl (by decide) (fm_dec dtX11_yearsBy 41 rfl) ?_
        refine pv_bipush (pc := 79) (v := 16) (by decide) (fm_dec dtX11_yearsBy 42 rfl) ?_
        refine pv_ishr (pc := 81) (fm_dec dtX11_yearsBy 43 rfl) ?_
        refine pv_bipush (pc := 82) (v := 63) (by decide) (fm_dec dtX11_yearsBy 44 rfl) ?_
        refine pv_iand (pc := 84) (fm_dec dtX11_yearsBy 45 rfl) ?_
        refine pv_aloadn (pc := 85) (n := 0) 0 rfl rfl (fm_dec dtX11_yearsBy 46 rfl) ?_
        refine pv_getR (k := 0) (j := 14) (ci := 11) (pc := 86) 17 rfl (by decide) pfl_X11_31 (by decide) rfl (by decide) (fm_dec dtX11_yearsBy 47 rfl) ?_
        refine pv_iload (pc := 89) (i := 4) rfl (fm_dec dtX11_yearsBy 48 rfl) ?_
        refine pv_aald (k := 17) (n := 8) (r := (35 + k)) (pc := 91) (by decide) (Or.inr (Or.inr rfl)) rfl (rw_life.inb hii hk8) (rw_life.at hii hk8) (rw_life.2.2.2 _ hk8).2.1 (fm_dec dtX11_yearsBy 49 rfl) ?_
        refine pv_iconst (pc := 92) (v := 1) (by decide) (fm_dec dtX11_yearsBy 50 rfl) ?_
        refine pv_iald (k := (35 + k)) (n := 6) (pc := 93) (rw_life.2.2.2 _ hk8).2.2.1 (rw_life.2.2.2 _ hk8).2.2.2.1 (rw_life.2.2.2 _ hk8).2.2.2.2 (fm_inl (by decide)) (fm_dec dtX11_yearsBy 51 rfl) ?_
        refine pv_icmp_ge (pc := 94) 107 (by decide) (fm_dec dtX11_yearsBy 52 rfl) (fun hc94 => ?_) (fun hc94 => ?_)
        · refine pv_iincc (pc := 107) 4 1 (by decide) rfl (by decide) rfl (fm_dec dtX11_yearsBy 58 rfl) ?_
          dsimp only [List.set_cons_zero, List.set_cons_succ]
          refine pv_goto (pc := 110) 31 (by decide) (fm_dec dtX11_yearsBy 59 rfl) ?_
          exact ih (8 - (k + 1)) (by omega) _ (k + 1) _ (i32_p1 hii (by omega)) (by omega) hI.p47 ((hF.toI (scIn_of (0, 47, 2) List.mem_cons_self ⟨rfl, by decide, by decide⟩)))
        · refine pv_aloadn (pc := 97) (n := 0) 0 rfl rfl (fm_dec dtX11_yearsBy 53 rfl) ?_
          refine pv_aloadn (pc := 98) (n := 0) 0 rfl rfl (fm_dec dtX11_yearsBy 54 rfl) ?_
          refine pv_getR (k := 0) (j := 28) (ci := 11) (pc := 99) 8 rfl (by decide) pfl_X11_64 (by decide) rfl (by decide) (fm_dec dtX11_yearsBy 55 rfl) ?_
          refine pv_iload (pc := 102) (i := 4) rfl (fm_dec dtX11_yearsBy 56 rfl) ?_
          refine pv_invV2 (k := 0) (d' := 8) (pc := 104) pcv_X11_303 (by decide) rfl (Nat.le_of_ble_eq_true rfl) (by decide) (fm_dec dtX11_yearsBy 57 rfl) ?_
          refine s_dies hii hk8 hI.p47 (fun M104 hI104 f104 => ?_)
          refine pv_then0 ?_
          refine pv_iincc (pc := 107) 4 1 (by decide) rfl (by decide) rfl (fm_dec dtX11_yearsBy 58 rfl) ?_
          dsimp only [List.set_cons_zero, List.set_cons_succ]
          refine pv_goto (pc := 110) 31 (by decide) (fm_dec dtX11_yearsBy 59 rfl) ?_
          exact ih (8 - (k + 1)) (by omega) M104 (k + 1) _ (i32_p1 hii (by omega)) (by omega) hI104 ((hF.toI (scIn_of (0, 47, 2) List.mem_cons_self ⟨rfl, by decide, by decide⟩)).trans f104 rfl)
set_option maxRecDepth 20000 in
theorem yb_1 {Q : fmR → fmM → Prop} {M0 : fmM} {seed weeks : Int32} (h60 : weeks.toInt ≤ 60) (hq : ∀ M' : fmM, scInv Tm invM M' → scFr [(0, 47, 2), (5, 0, 160), (6, 0, 5), (8, 0, 14)] M0 M' → Q (.inl none) M') : ∀ (m : Nat) (M : fmM) (k : Nat) (ww : Int32) (v4 : Option Value), ww.toInt = k → k + m = 60 → scInv Tm invM M → scFr [(0, 47, 2), (5, 0, 160), (6, 0, 5), (8, 0, 14)] M0 M → pvEv Tm 12 qX11_yearsBy 23 [some (.ref 0), some (.int seed), some (.int weeks), some (.int ww), v4] [] M Q := by
  intro m
  induction m using Nat.strongRecOn with
  | _ m ih =>
    intro M k ww v4 hww hm hI hF
    refine pv_iloadn (pc := 23) (n := 3) 3 rfl rfl (fm_dec dtX11_yearsBy 13 rfl) ?_
    refine pv_iloadn (pc := 24) (n := 2) 2 rfl rfl (fm_dec dtX11_yearsBy 14 rfl) ?_
    refine pv_icmp_ge (pc := 25) 191 (by decide) (fm_dec dtX11_yearsBy 15 rfl) (fun hc25 => ?_) (fun hc25 => ?_)
    · exact pv_return (pc := 191) rfl (fm_dec dtX11_yearsBy 100 rfl) (hq M hI hF)
    · have hk60 : k < 60 := (by rw [sc_le] at hc25; omega)
      refine pv_iconst (pc := 28) (v := 0) (by decide) (fm_dec dtX11_yearsBy 16 rfl) ?_
      refine pv_istore (pc := 29) (i := 4) (by decide) rfl (fm_dec dtX11_yearsBy 17 rfl) ?_
      dsimp only [List.set_cons_zero, List.set_cons_succ]
      refine yb_2 (fun M2 i2 hI2 hF2 => ?_) 8 M 0 _ (by decide) (by decide) hI hF
      refine pv_aloadn (pc := 113) (n := 0) 0 rfl rfl (fm_dec dtX11_yearsBy 60 rfl) ?_
      refine pv_aloadn (pc := 114) (n := 0) 0 rfl rfl (fm_dec dtX11_yearsBy 61 rfl) ?_
      refine pv_getR (k := 0) (j := 28) (ci := 11) (pc := 115) 8 rfl (by decide) pfl_X11_64 (by decide) rfl (by decide) (fm_dec dtX11_yearsBy 62 rfl) ?_
      refine pv_aloadn (pc := 118) (n := 0) 0 rfl rfl (fm_dec dtX11_yearsBy 63 rfl) ?_
      refine pv_getR (k := 0) (j := 28) (ci := 11) (pc := 119) 8 rfl (by decide) pfl_X11_64 (by decide) rfl (by decide) (fm_dec dtX11_yearsBy 64 rfl) ?_
      refine pv_bipush (pc := 122) (v := 9) (by decide) (fm_dec dtX11_yearsBy 65 rfl) ?_
      refine pv_iald (k := 8) (n := 14) (pc := 124) (by decide) rfl rfl (fm_inl (by decide)) (fm_dec dtX11_yearsBy 66 rfl) ?_
      refine pv_invV2 (k := 0) (d' := 9) (pc := 125) pcv_X11_358 (by decide) rfl (Nat.le_of_ble_eq_true rfl) (by decide) (fm_dec dtX11_yearsBy 67 rfl) ?_
      refine s_first hI2 (fun r125 M125 hI125 f125 b125 => ?_)
      refine pv_then1 ?_
      refine pv_istore (pc := 128) (i := 4) (by decide) rfl (fm_dec dtX11_yearsBy 68 rfl) ?_
      dsimp only [List.set_cons_zero, List.set_cons_succ]
      refine yb_3 (fun M3 n3 hI3 hF3 => ?_) (cnt8 M125) M125 _ (Nat.le_refl _) hI125 (hF2.trans f125 rfl) (b125.imp id (fun ⟨q, q1, q2, q3⟩ => ⟨q, q1, q2, fun h9 => q3 (by have a1 := (f125 8 (1 + q) rfl).1; have a2 := (f125 8 10 rfl).1; rw [← a1, ← a2]; exact h9)⟩))
      refine pv_aloadn (pc := 176) (n := 0) 0 rfl rfl (fm_dec dtX11_yearsBy 93 rfl) ?_
      refine pv_aloadn (pc := 177) (n := 0) 0 rfl rfl (fm_dec dtX11_yearsBy 94 rfl) ?_
      refine pv_getR (k := 0) (j := 28) (ci := 11) (pc := 178) 8 rfl (by decide) pfl_X11_64 (by decide) rfl (by decide) (fm_dec dtX11_yearsBy 95 rfl) ?_
      refine pv_invV1 (k := 0) (d' := 0) (pc := 181) pcv_X11_306 (by decide) rfl (Nat.le_of_ble_eq_true rfl) (by decide) (fm_dec dtX11_yearsBy 96 rfl) ?_
      refine s_week hI3 (fun n9 M9 hI9 f9 => ?_)
      refine pv_then1 ?_
      refine pv_pop (pc := 184) rfl (fm_dec dtX11_yearsBy 97 rfl) ?_
      refine pv_iincc (pc := 185) 3 1 (by decide) rfl (by decide) rfl (fm_dec dtX11_yearsBy 98 rfl) ?_
      dsimp only [List.set_cons_zero, List.set_cons_succ]
      refine pv_goto (pc := 188) 23 (by decide) (fm_dec dtX11_yearsBy 99 rfl) ?_
      exact ih (60 - (k + 1)) (by omega) M9 (k + 1) _ _ (i32_p1 hww (by omega)) (by omega) hI9 (hF3.trans f9 rfl)
set_option maxRecDepth 20000 in
theorem s_years {M : fmM} {Q : fmR → fmM → Prop} {seed weeks : Int32} (h60 : weeks.toInt ≤ 60) (hI : scInv Tm invM M) (hq : ∀ M' : fmM, scInv Tm invM M' → scFr [(0, 47, 2), (5, 0, 160), (6, 0, 5), (8, 0, 14)] M M' → Q (.inl none) M') : pvGood Tm 12 qX11_yearsBy [.ref 0, .int seed, .int weeks] M Q := by
  refine pvGood_of (Nat.le_of_ble_eq_true rfl) ?_
  show pvEv Tm 12 qX11_yearsBy 0 [some (.ref 0), some (.int seed), some (.int weeks), none, none] [] M Q
  refine pv_aloadn (pc := 0) (n := 0) 0 rfl rfl (fm_dec dtX11_yearsBy 0 rfl) ?_
  refine pv_getR (k := 0) (j := 27) (ci := 11) (pc := 1) 7 rfl (by decide) pfl_X11_61 (by decide) rfl (by decide) (fm_dec dtX11_yearsBy 1 rfl) ?_
  refine pv_aloadn (pc := 4) (n := 0) 0 rfl rfl (fm_dec dtX11_yearsBy 2 rfl) ?_
  refine pv_getR (k := 0) (j := 28) (ci := 11) (pc := 5) 8 rfl (by decide) pfl_X11_64 (by decide) rfl (by decide) (fm_dec dtX11_yearsBy 3 rfl) ?_
  refine pv_iS2 (d' := 0) (pc := 8) pcs_X11_323 (Nat.le_of_ble_eq_true rfl) (by decide) (fm_dec dtX11_yearsBy 4 rfl) ?_
  refine s_copies hI (fun M8 hI8 f8 => ?_)
  refine pv_then0 ?_
  refine pv_aloadn (pc := 11) (n := 0) 0 rfl rfl (fm_dec dtX11_yearsBy 5 rfl) ?_
  refine pv_iloadn (pc := 12) (n := 1) 1 rfl rfl (fm_dec dtX11_yearsBy 6 rfl) ?_
  refine pv_putI (k := 0) (j := 47) (ci := 11) (pc := 13) pfl_X11_426 (by decide) rfl (by decide) (fm_dec dtX11_yearsBy 7 rfl) ?_
  refine pv_aloadn (pc := 16) (n := 0) 0 rfl rfl (fm_dec dtX11_yearsBy 8 rfl) ?_
  refine pv_iconst (pc := 17) (v := 0) (by decide) (fm_dec dtX11_yearsBy 9 rfl) ?_
  refine pv_putI (k := 0) (j := 48) (ci := 11) (pc := 18) pfl_X11_429 (by decide) rfl (by decide) (fm_dec dtX11_yearsBy 10 rfl) ?_
  refine pv_iconst (pc := 21) (v := 0) (by decide) (fm_dec dtX11_yearsBy 11 rfl) ?_
  refine pv_istoren (pc := 22) (n := 3) 3 rfl (by decide) rfl (fm_dec dtX11_yearsBy 12 rfl) ?_
  dsimp only [List.set_cons_zero, List.set_cons_succ]
  exact yb_1 h60 hq 60 _ 0 _ _ (by decide) (by decide) hI8.p47.p48 ((((scFr.rfl (W := [(0, 47, 2), (5, 0, 160), (6, 0, 5), (8, 0, 14)])).trans f8 rfl).toI (scIn_of (0, 47, 2) List.mem_cons_self ⟨rfl, by decide, by decide⟩)).toI (scIn_of (0, 47, 2) List.mem_cons_self ⟨rfl, by decide, by decide⟩))
theorem hh_hand_yearsBy : scH Tm invM cc_hand_yearsBy := by
  intro M σ as hE hS hF hI
  obtain ⟨r, st1, hr, e1, q1⟩ := scSk_r hS
  obtain ⟨i, st2, e2, hi, q2⟩ := scSk_i q1
  obtain ⟨w, st3, e3, hw, q3⟩ := scSk_i q2
  have e5 := scSk_0 q3
  have er : r = 0 := by simpa using hr
  have h60 : w.toInt ≤ 60 := (sc_ev hE rfl hw).2
  subst er
  subst e5
  subst e3
  subst e2
  subst e1
  exact s_years h60 hI (fun M' h1 h2 => ⟨⟨_, List.mem_cons_self, rfl, fun q hq => (by cases hq), fun q hq => (by cases hq)⟩, h1, h2⟩)
end
-- P 12pa
section
abbrev cc_X11_feed_0 : scC := (qX11_feed, 0, [((-2147483648), 2147483647), ((-2147483648), 2147483647), ((-2147483648), 2147483647), ((-2147483648), 2147483647), ((-2147483648), 2147483647)], [.inr (.inr (.inl [0])), .inl (some 0, 0), .inl (some 1, 0), .inl (some 2, 0), .inl (some 3, 0), .inl (some 4, 0)], [], [(1, ((-1), 600), [], [], [])], [(0, 0, 2), (1, 0, 600)])
set_option maxRecDepth 20000 in
abbrev xx_X11_feed_0 : scX := (Tm, invM, lnX11, [], cc_X11_feed_0)
set_option maxRecDepth 20000 in
theorem hh_X11_feed_0 : scH Tm invM cc_X11_feed_0 := scCheck_ok (X := xx_X11_feed_0) (nodes := []) (fuel := 4000) ⟨lqX11, fa_nil⟩ dtX11_feed (by decide +kernel)
abbrev cc_X11_fault_0 : scC := (qX11_fault, 0, [], [.inr (.inr (.inl [0]))], [], [(1, ((-1), 600), [], [], [])], [(0, 0, 1)])
set_option maxRecDepth 20000 in
abbrev xx_X11_fault_0 : scX := (Tm, invM, lnX11, [], cc_X11_fault_0)
set_option maxRecDepth 20000 in
theorem hh_X11_fault_0 : scH Tm invM cc_X11_fault_0 := scCheck_ok (X := xx_X11_fault_0) (nodes := []) (fuel := 4000) ⟨lqX11, fa_nil⟩ dtX11_fault (by decide +kernel)
abbrev cc_X11_copies_2 : scC := (qX11_copies, 0, [], [.inr (.inr (.inl [503, 504, 505, 506, 507, 508, 509, 510, 511, 512, 513, 514, 515, 516, 517, 518])), .inr (.inr (.inl [7]))], [], [(0, (0, 0), [], [], [])], [(7, 0, 14)])
set_option maxRecDepth 20000 in
abbrev xx_X11_copies_2 : scX := (Tm, invM, lnX11, [], cc_X11_copies_2)
set_option maxRecDepth 20000 in
theorem hh_X11_copies_2 : scH Tm invM cc_X11_copies_2 := scCheck_ok (X := xx_X11_copies_2) (nodes := []) (fuel := 4000) ⟨lqX11, fa_nil⟩ dtX11_copies (by decide +kernel)
abbrev cc_X11_undo_0 : scC := (qX11_undo, 1, [], [.inr (.inr (.inl [0]))], [], [(1, ((-1), 15), [], [], [])], [(0, 0, 1), (0, 32, 2), (7, 0, 14)])
set_option maxRecDepth 20000 in
abbrev xx_X11_undo_0 : scX := (Tm, invM, lnX11, [(323, 1, 0, cc_X11_copies_2)], cc_X11_undo_0)
set_option maxRecDepth 20000 in
theorem hh_X11_undo_0 : scH Tm invM cc_X11_undo_0 := scCheck_ok (X := xx_X11_undo_0) (nodes := []) (fuel := 4000) ⟨lqX11, fa_cons (⟨pcs_X11_323, hh_X11_copies_2⟩) (fa_nil)⟩ dtX11_undo (by decide +kernel)
abbrev cc_X11_in_0 : scC := (qX11_in, 0, [((-2147483648), 2147483647), (0, 0), (8, 8)], [.inl (some 0, 0), .inl (some 1, 0), .inl (some 2, 0)], [], [(1, (0, 0), [], [], []), (1, (1, 1), [], [(0, (0, 8))], [])], [])
set_option maxRecDepth 20000 in
abbrev xx_X11_in_0 : scX := (Tm, invM, lnX11, [], cc_X11_in_0)
set_option maxRecDepth 20000 in
theorem hh_X11_in_0 : scH Tm invM cc_X11_in_0 := scCheck_ok (X := xx_X11_in_0) (nodes := []) (fuel := 4000) ⟨lqX11, fa_nil⟩ dtX11_in (by decide +kernel)
abbrev cc_X11_bad_0 : scC := (qX11_bad, 0, [], [.inr (.inr (.inl [0])), .inl (none, 0), .inl (none, 1), .inl (none, 1)], [((0, 0), (none, 0))], [(1, (0, 0), [], [], [((0, 0), (0, 0))])], [])
set_option maxRecDepth 20000 in
abbrev xx_X11_bad_0 : scX := (Tm, invM, lnX11, [], cc_X11_bad_0)
set_option maxRecDepth 20000 in
theorem hh_X11_bad_0 : scH Tm invM cc_X11_bad_0 := scCheck_ok (X := xx_X11_bad_0) (nodes := []) (fuel := 4000) ⟨lqX11, fa_nil⟩ dtX11_bad (by decide +kernel)
abbrev cc_X11_aliveIn_0 : scC := (qX11_aliveIn, 1, [], [.inr (.inr (.inl [0])), .inr (.inr (.inl [7]))], [], [(1, ((-2147483648), 2147483647), [], [], [])], [])
set_option maxRecDepth 20000 in
abbrev xx_X11_aliveIn_0 : scX := (Tm, invM, lnX11, [(256, 1, 0, cc_X11_has_0)], cc_X11_aliveIn_0)
set_option maxRecDepth 20000 in
theorem hh_X11_aliveIn_0 : scH Tm invM cc_X11_aliveIn_0 := scCheck_ok (X := xx_X11_aliveIn_0) (nodes := [(4, ([((-2147483648), 2147483647), (0, 8), ((-2147483648), 2147483647), (0, 8)], [some (.inr (.inr (.inl [0]))), some (.inr (.inr (.inl [7]))), some (.inl (some 0, 0)), some (.inl (some 1, 0))], [], [((7, 0), (some 2, 0)), ((4, 0), (some 3, 0))]), ([0, (-2)], 16))]) (fuel := 4000) ⟨lqX11, fa_cons (⟨pcs_X11_256, hh_X11_has_0⟩) (fa_nil)⟩ dtX11_aliveIn (by decide +kernel)
abbrev cc_X11_bad_1 : scC := (qX11_bad, 0, [], [.inr (.inr (.inl [0])), .inl (none, 1), .inl (none, 1), .inl (none, 1)], [((0, 0), (none, 0))], [(1, (1, 1), [], [], [((0, 0), (1, 1))])], [(0, 0, 1), (2, 1, 1)])
set_option maxRecDepth 20000 in
abbrev xx_X11_bad_1 : scX := (Tm, invM, lnX11, [], cc_X11_bad_1)
set_option maxRecDepth 20000 in
theorem hh_X11_bad_1 : scH Tm invM cc_X11_bad_1 := scCheck_ok (X := xx_X11_bad_1) (nodes := []) (fuel := 4000) ⟨lqX11, fa_nil⟩ dtX11_bad (by decide +kernel)
abbrev cc_X11_told_0 : scC := (qX11_told, 2, [((-2147483648), 2147483647)], [.inr (.inr (.inl [0])), .inl (some 0, 0)], [], [(1, ((-2147483648), 2147483647), [], [], [])], [(0, 0, 1), (2, 1, 1)])
set_option maxRecDepth 20000 in
abbrev xx_X11_told_0 : scX := (Tm, invM, lnX11, [(135, 1, 0, cc_X11_in_0), (177, 0, 11, cc_X11_bad_0), (177, 0, 11, cc_X11_bad_1), (283, 1, 0, cc_X11_hasPiece_1), (327, 0, 11, cc_X11_aliveIn_0)], cc_X11_told_0)
set_option maxRecDepth 20000 in
theorem hh_X11_told_0 : scH Tm invM cc_X11_told_0 := scCheck_ok (X := xx_X11_told_0) (nodes := [(116, ([(4, 4), ((-2147483648), 2147483647), (0, 8), (0, 0), (0, 8)], [some (.inr (.inr (.inl [0]))), some (.inl (some 0, 0)), some (.inl (some 1, 0)), some (.inl (some 2, 0))], [], [((0, 0), (some 3, 0)), ((4, 0), (some 4, 0))]), ([0, 0, (-2)], 16))]) (fuel := 4000) ⟨lqX11, fa_cons (⟨pcs_X11_135, hh_X11_in_0⟩) (fa_cons (⟨⟨3, _, pcv_X11_177, rfl⟩, hh_X11_bad_0⟩) (fa_cons (⟨⟨3, _, pcv_X11_177, rfl⟩, hh_X11_bad_1⟩) (fa_cons (⟨pcs_X11_283, hh_X11_hasPiece_1⟩) (fa_cons (⟨⟨1, _, pcv_X11_327, rfl⟩, hh_X11_aliveIn_0⟩) (fa_nil)))))⟩ dtX11_told (by decide +kernel)
abbrev cc_X11_in_1 : scC := (qX11_in, 0, [((-2147483648), 2147483647), (0, 0), ((-1), 7)], [.inl (some 0, 0), .inl (some 1, 0), .inl (some 2, 0)], [], [(1, (0, 0), [], [], []), (1, (1, 1), [], [(0, (0, 7)), (2, (0, 7))], [])], [])
set_option maxRecDepth 20000 in
abbrev xx_X11_in_1 : scX := (Tm, invM, lnX11, [], cc_X11_in_1)
set_option maxRecDepth 20000 in
theorem hh_X11_in_1 : scH Tm invM cc_X11_in_1 := scCheck_ok (X := xx_X11_in_1) (nodes := []) (fuel := 4000) ⟨lqX11, fa_nil⟩ dtX11_in (by decide +kernel)
abbrev cc_X11_isLife_0 : scC := (qX11_isLife, 1, [((-2147483648), 2147483647)], [.inr (.inr (.inl [0])), .inl (some 0, 0)], [], [(1, (0, 0), [], [], []), (1, (1, 1), [], [(0, (0, 7))], [])], [])
set_option maxRecDepth 20000 in
abbrev xx_X11_isLife_0 : scX := (Tm, invM, lnX11, [(135, 1, 0, cc_X11_in_1)], cc_X11_isLife_0)
set_option maxRecDepth 20000 in
theorem hh_X11_isLife_0 : scH Tm invM cc_X11_isLife_0 := scCheck_ok (X := xx_X11_isLife_0) (nodes := []) (fuel := 4000) ⟨lqX11, fa_cons (⟨pcs_X11_135, hh_X11_in_1⟩) (fa_nil)⟩ dtX11_isLife (by decide +kernel)
abbrev cc_X11_bad_2 : scC := (qX11_bad, 0, [], [.inr (.inr (.inl [0])), .inl (none, 0), .inl (none, 1), .inl (none, 0)], [((0, 0), (none, 0))], [(1, (0, 0), [], [], [((0, 0), (0, 0))])], [])
set_option maxRecDepth 20000 in
abbrev xx_X11_bad_2 : scX := (Tm, invM, lnX11, [], cc_X11_bad_2)
set_option maxRecDepth 20000 in
theorem hh_X11_bad_2 : scH Tm invM cc_X11_bad_2 := scCheck_ok (X := xx_X11_bad_2) (nodes := []) (fuel := 4000) ⟨lqX11, fa_nil⟩ dtX11_bad (by decide +kernel)
abbrev cc_X11_in_2 : scC := (qX11_in, 0, [((-2147483648), 2147483647), (0, 0), (7, 7)], [.inl (some 0, 0), .inl (some 1, 0), .inl (some 2, 0)], [], [(1, (0, 0), [], [], []), (1, (1, 1), [], [(0, (0, 7))], [])], [])
set_option maxRecDepth 20000 in
abbrev xx_X11_in_2 : scX := (Tm, invM, lnX11, [], cc_X11_in_2)
set_option maxRecDepth 20000 in
theorem hh_X11_in_2 : scH Tm invM cc_X11_in_2 := scCheck_ok (X := xx_X11_in_2) (nodes := []) (fuel := 4000) ⟨lqX11, fa_nil⟩ dtX11_in (by decide +kernel)
abbrev cc_X11_bad_3 : scC := (qX11_bad, 0, [], [.inr (.inr (.inl [0])), .inl (none, 0), .inl (none, 2), .inl (none, 1)], [((0, 0), (none, 0))], [(1, (0, 0), [], [], [((0, 0), (0, 0))])], [])
set_option maxRecDepth 20000 in
abbrev xx_X11_bad_3 : scX := (Tm, invM, lnX11, [], cc_X11_bad_3)
set_option maxRecDepth 20000 in
theorem hh_X11_bad_3 : scH Tm invM cc_X11_bad_3 := scCheck_ok (X := xx_X11_bad_3) (nodes := []) (fuel := 4000) ⟨lqX11, fa_nil⟩ dtX11_bad (by decide +kernel)
abbrev cc_X11_bad_4 : scC := (qX11_bad, 0, [], [.inr (.inr (.inl [0])), .inl (none, 1), .inl (none, 2), .inl (none, 1)], [((0, 0), (none, 0))], [(1, (1, 1), [], [], [((0, 0), (2, 2))])], [(0, 0, 1), (2, 1, 1)])
set_option maxRecDepth 20000 in
abbrev xx_X11_bad_4 : scX := (Tm, invM, lnX11, [], cc_X11_bad_4)
set_option maxRecDepth 20000 in
theorem hh_X11_bad_4 : scH Tm invM cc_X11_bad_4 := scCheck_ok (X := xx_X11_bad_4) (nodes := []) (fuel := 4000) ⟨lqX11, fa_nil⟩ dtX11_bad (by decide +kernel)
abbrev cc_X11_bad_5 : scC := (qX11_bad, 0, [], [.inr (.inr (.inl [0])), .inl (none, 1), .inl (none, 1), .inl (none, 0)], [((0, 0), (none, 0))], [(1, (1, 1), [], [], [((0, 0), (1, 1))])], [(0, 0, 1), (2, 0, 1)])
set_option maxRecDepth 20000 in
abbrev xx_X11_bad_5 : scX := (Tm, invM, lnX11, [], cc_X11_bad_5)
set_option maxRecDepth 20000 in
theorem hh_X11_bad_5 : scH Tm invM cc_X11_bad_5 := scCheck_ok (X := xx_X11_bad_5) (nodes := []) (fuel := 4000) ⟨lqX11, fa_nil⟩ dtX11_bad (by decide +kernel)
abbrev cc_X11_life_0 : scC := (qX11_life, 2, [((-2147483648), 2147483647), ((-2147483648), 2147483647)], [.inr (.inr (.inl [0])), .inl (some 0, 0), .inl (some 1, 0)], [], [(1, ((-200), 1200), [], [], [])], [(0, 0, 1), (2, 0, 2)])
set_option maxRecDepth 20000 in
abbrev xx_X11_life_0 : scX := (Tm, invM, lnX11, [(135, 1, 0, cc_X11_in_2), (177, 0, 11, cc_X11_bad_2), (177, 0, 11, cc_X11_bad_5), (177, 0, 11, cc_X11_bad_3), (177, 0, 11, cc_X11_bad_4), (263, 0, 11, cc_X11_yearsOf_0), (283, 1, 0, cc_X11_hasPiece_1), (287, 0, 11, cc_X11_renewHours_0), (331, 0, 11, cc_X11_isLife_0)], cc_X11_life_0)
set_option maxRecDepth 20000 in
theorem hh_X11_life_0 : scH Tm invM cc_X11_life_0 := scCheck_ok (X := xx_X11_life_0) (nodes := []) (fuel := 4000) ⟨lqX11, fa_cons (⟨pcs_X11_135, hh_X11_in_2⟩) (fa_cons (⟨⟨3, _, pcv_X11_177, rfl⟩, hh_X11_bad_2⟩) (fa_cons (⟨⟨3, _, pcv_X11_177, rfl⟩, hh_X11_bad_5⟩) (fa_cons (⟨⟨3, _, pcv_X11_177, rfl⟩, hh_X11_bad_3⟩) (fa_cons (⟨⟨3, _, pcv_X11_177, rfl⟩, hh_X11_bad_4⟩) (fa_cons (⟨⟨2, _, pcv_X11_263, rfl⟩, hh_X11_yearsOf_0⟩) (fa_cons (⟨pcs_X11_283, hh_X11_hasPiece_1⟩) (fa_cons (⟨⟨1, _, pcv_X11_287, rfl⟩, hh_X11_renewHours_0⟩) (fa_cons (⟨⟨1, _, pcv_X11_331, rfl⟩, hh_X11_isLife_0⟩) (fa_nil)))))))))⟩ dtX11_life (by decide +kernel)
abbrev cc_X11_factsAt_0 : scC := (qX11_factsAt, 0, [((-2147483648), 2147483647), ((-2147483648), 2147483647)], [.inr (.inr (.inl [0])), .inl (some 0, 0), .inl (some 1, 0)], [], [(1, ((-2147483648), 2147483647), [], [], [])], [])
set_option maxRecDepth 20000 in
abbrev xx_X11_factsAt_0 : scX := (Tm, invM, lnX11, [], cc_X11_factsAt_0)
set_option maxRecDepth 20000 in
theorem hh_X11_factsAt_0 : scH Tm invM cc_X11_factsAt_0 := scCheck_ok (X := xx_X11_factsAt_0) (nodes := [(5, ([((-2147483648), 2147483647), ((-2147483648), 2147483647), ((-2147483648), 2147483647), (0, 24), (0, 5), (0, 60), (0, 7), (0, 24)], [some (.inr (.inr (.inl [0]))), some (.inl (some 0, 0)), some (.inl (some 1, 0)), some (.inl (some 2, 0)), some (.inl (some 3, 0))], [], [((67, 1), (some 4, 0)), ((67, 2), (some 5, 0)), ((67, 0), (some 6, 0)), ((4, 1), (some 7, 0))]), ([0, 0, 0, (-2)], 48))]) (fuel := 4000) ⟨lqX11, fa_nil⟩ dtX11_factsAt (by decide +kernel)
abbrev cc_X11_facts_0 : scC := (qX11_facts, 2, [((-2147483648), 2147483647)], [.inr (.inr (.inl [0])), .inl (some 0, 0)], [], [(1, ((-2147483648), 2147483647), [], [], [])], [(0, 0, 1), (2, 0, 1)])
set_option maxRecDepth 20000 in
abbrev xx_X11_facts_0 : scX := (Tm, invM, lnX11, [(177, 0, 11, cc_X11_bad_2), (177, 0, 11, cc_X11_bad_5), (331, 0, 11, cc_X11_isLife_0), (334, 0, 11, cc_X11_factsAt_0)], cc_X11_facts_0)
set_option maxRecDepth 20000 in
theorem hh_X11_facts_0 : scH Tm invM cc_X11_facts_0 := scCheck_ok (X := xx_X11_facts_0) (nodes := []) (fuel := 4000) ⟨lqX11, fa_cons (⟨⟨3, _, pcv_X11_177, rfl⟩, hh_X11_bad_2⟩) (fa_cons (⟨⟨3, _, pcv_X11_177, rfl⟩, hh_X11_bad_5⟩) (fa_cons (⟨⟨1, _, pcv_X11_331, rfl⟩, hh_X11_isLife_0⟩) (fa_cons (⟨⟨2, _, pcv_X11_334, rfl⟩, hh_X11_factsAt_0⟩) (fa_nil))))⟩ dtX11_facts (by decide +kernel)
abbrev cc_X11_wrongOf_0 : scC := (qX11_wrongOf, 6, [(0, 7)], [.inr (.inr (.inl [0])), .inl (some 0, 0)], [], [(1, ((-1), 64), [], [], [])], [(5, 0, 160), (6, 0, 5)])
set_option maxRecDepth 20000 in
abbrev xx_X11_wrongOf_0 : scX := (Tm, invM, lnX11, [(276, 0, 11, cc_X11_wrongIn_1), (283, 1, 0, cc_X11_hasPiece_1)], cc_X11_wrongOf_0)
set_option maxRecDepth 20000 in
theorem hh_X11_wrongOf_0 : scH Tm invM cc_X11_wrongOf_0 := scCheck_ok (X := xx_X11_wrongOf_0) (nodes := []) (fuel := 4000) ⟨lqX11, fa_cons (⟨⟨4, _, pcv_X11_276, rfl⟩, hh_X11_wrongIn_1⟩) (fa_cons (⟨pcs_X11_283, hh_X11_hasPiece_1⟩) (fa_nil))⟩ dtX11_wrongOf (by decide +kernel)
abbrev cc_X11_wrong_0 : scC := (qX11_wrong, 7, [((-2147483648), 2147483647)], [.inr (.inr (.inl [0])), .inl (some 0, 0)], [], [(1, ((-1), 64), [], [], [])], [(0, 0, 1), (2, 0, 1), (5, 0, 160), (6, 0, 5)])
set_option maxRecDepth 20000 in
abbrev xx_X11_wrong_0 : scX := (Tm, invM, lnX11, [(177, 0, 11, cc_X11_bad_2), (177, 0, 11, cc_X11_bad_5), (331, 0, 11, cc_X11_isLife_0), (337, 0, 11, cc_X11_wrongOf_0)], cc_X11_wrong_0)
set_option maxRecDepth 20000 in
theorem hh_X11_wrong_0 : scH Tm invM cc_X11_wrong_0 := scCheck_ok (X := xx_X11_wrong_0) (nodes := []) (fuel := 4000) ⟨lqX11, fa_cons (⟨⟨3, _, pcv_X11_177, rfl⟩, hh_X11_bad_2⟩) (fa_cons (⟨⟨3, _, pcv_X11_177, rfl⟩, hh_X11_bad_5⟩) (fa_cons (⟨⟨1, _, pcv_X11_331, rfl⟩, hh_X11_isLife_0⟩) (fa_cons (⟨⟨1, _, pcv_X11_337, rfl⟩, hh_X11_wrongOf_0⟩) (fa_nil))))⟩ dtX11_wrong (by decide +kernel)
abbrev cc_X11_in_3 : scC := (qX11_in, 0, [((-2147483648), 2147483647), (0, 0), (200, 200)], [.inl (some 0, 0), .inl (some 1, 0), .inl (some 2, 0)], [], [(1, (0, 0), [], [], []), (1, (1, 1), [], [(0, (0, 200))], [])], [])
set_option maxRecDepth 20000 in
abbrev xx_X11_in_3 : scX := (Tm, invM, lnX11, [], cc_X11_in_3)
set_option maxRecDepth 20000 in
theorem hh_X11_in_3 : scH Tm invM cc_X11_in_3 := scCheck_ok (X := xx_X11_in_3) (nodes := []) (fuel := 4000) ⟨lqX11, fa_nil⟩ dtX11_in (by decide +kernel)
abbrev cc_X11_in_4 : scC := (qX11_in, 0, [((-2147483648), 2147483647), (1, 1), (99, 99)], [.inl (some 0, 0), .inl (some 1, 0), .inl (some 2, 0)], [], [(1, (0, 0), [], [], []), (1, (1, 1), [], [(0, (1, 99))], [])], [])
set_option maxRecDepth 20000 in
abbrev xx_X11_in_4 : scX := (Tm, invM, lnX11, [], cc_X11_in_4)
set_option maxRecDepth 20000 in
theorem hh_X11_in_4 : scH Tm invM cc_X11_in_4 := scCheck_ok (X := xx_X11_in_4) (nodes := []) (fuel := 4000) ⟨lqX11, fa_nil⟩ dtX11_in (by decide +kernel)
abbrev cc_X11_in_5 : scC := (qX11_in, 0, [((-2147483648), 2147483647), (0, 0), (1, 1)], [.inl (some 0, 0), .inl (some 1, 0), .inl (some 2, 0)], [], [(1, (0, 0), [], [], []), (1, (1, 1), [], [(0, (0, 1))], [])], [])
set_option maxRecDepth 20000 in
abbrev xx_X11_in_5 : scX := (Tm, invM, lnX11, [], cc_X11_in_5)
set_option maxRecDepth 20000 in
theorem hh_X11_in_5 : scH Tm invM cc_X11_in_5 := scCheck_ok (X := xx_X11_in_5) (nodes := []) (fuel := 4000) ⟨lqX11, fa_nil⟩ dtX11_in (by decide +kernel)
abbrev cc_X11_in_6 : scC := (qX11_in, 0, [((-2147483648), 2147483647), (0, 0), (24, 24)], [.inl (some 0, 0), .inl (some 1, 0), .inl (some 2, 0)], [], [(1, (0, 0), [], [], []), (1, (1, 1), [], [(0, (0, 24))], [])], [])
set_option maxRecDepth 20000 in
abbrev xx_X11_in_6 : scX := (Tm, invM, lnX11, [], cc_X11_in_6)
set_option maxRecDepth 20000 in
theorem hh_X11_in_6 : scH Tm invM cc_X11_in_6 := scCheck_ok (X := xx_X11_in_6) (nodes := []) (fuel := 4000) ⟨lqX11, fa_nil⟩ dtX11_in (by decide +kernel)
abbrev cc_X11_would_0 : scC := (qX11_would, 5, [((-2147483648), 2147483647), ((-2147483648), 2147483647), ((-2147483648), 2147483647), ((-2147483648), 2147483647), ((-2147483648), 2147483647)], [.inr (.inr (.inl [0])), .inl (some 0, 0), .inl (some 1, 0), .inl (some 2, 0), .inl (some 3, 0), .inl (some 4, 0)], [], [(1, (0, 64), [], [], [])], [(0, 0, 1), (2, 1, 1), (5, 0, 160), (6, 0, 5)])
set_option maxRecDepth 20000 in
abbrev xx_X11_would_0 : scX := (Tm, invM, lnX11, [(135, 1, 0, cc_X11_in_3), (135, 1, 0, cc_X11_in_4), (135, 1, 0, cc_X11_in_5), (135, 1, 0, cc_X11_in_6), (177, 0, 11, cc_X11_bad_0), (177, 0, 11, cc_X11_bad_1), (273, 0, 11, cc_X11_wrongBy_0)], cc_X11_would_0)
set_option maxRecDepth 20000 in
theorem hh_X11_would_0 : scH Tm invM cc_X11_would_0 := scCheck_ok (X := xx_X11_would_0) (nodes := []) (fuel := 4000) ⟨lqX11, fa_cons (⟨pcs_X11_135, hh_X11_in_3⟩) (fa_cons (⟨pcs_X11_135, hh_X11_in_4⟩) (fa_cons (⟨pcs_X11_135, hh_X11_in_5⟩) (fa_cons (⟨pcs_X11_135, hh_X11_in_6⟩) (fa_cons (⟨⟨3, _, pcv_X11_177, rfl⟩, hh_X11_bad_0⟩) (fa_cons (⟨⟨3, _, pcv_X11_177, rfl⟩, hh_X11_bad_1⟩) (fa_cons (⟨⟨5, _, pcv_X11_273, rfl⟩, hh_X11_wrongBy_0⟩) (fa_nil)))))))⟩ dtX11_would (by decide +kernel)
abbrev cc_X11_noPart_0 : scC := (qX11_noPart, 1, [((-2147483648), 2147483647)], [.inr (.inr (.inl [0])), .inl (some 0, 0), .inl (none, 1)], [((0, 0), (none, 0))], [(1, (0, 0), [], [(0, (0, 1))], [((0, 0), (0, 0))]), (1, (1, 1), [], [], [((0, 0), (1, 1))])], [(0, 0, 1), (2, 1, 1)])
set_option maxRecDepth 20000 in
abbrev xx_X11_noPart_0 : scX := (Tm, invM, lnX11, [(135, 1, 0, cc_X11_in_5), (177, 0, 11, cc_X11_bad_0), (177, 0, 11, cc_X11_bad_1)], cc_X11_noPart_0)
set_option maxRecDepth 20000 in
theorem hh_X11_noPart_0 : scH Tm invM cc_X11_noPart_0 := scCheck_ok (X := xx_X11_noPart_0) (nodes := []) (fuel := 4000) ⟨lqX11, fa_cons (⟨pcs_X11_135, hh_X11_in_5⟩) (fa_cons (⟨⟨3, _, pcv_X11_177, rfl⟩, hh_X11_bad_0⟩) (fa_cons (⟨⟨3, _, pcv_X11_177, rfl⟩, hh_X11_bad_1⟩) (fa_nil)))⟩ dtX11_noPart (by decide +kernel)
abbrev cc_X11_loss_0 : scC := (qX11_loss, 2, [((-2147483648), 2147483647)], [.inr (.inr (.inl [0])), .inl (some 0, 0)], [], [(2, ((-9223372036854775808), 9223372036854775807), [], [], [])], [(0, 0, 1), (2, 1, 1)])
set_option maxRecDepth 20000 in
abbrev xx_X11_loss_0 : scX := (Tm, invM, lnX11, [(340, 0, 11, cc_X11_noPart_0), (345, 1, 0, cc_hand_partOf)], cc_X11_loss_0)
set_option maxRecDepth 20000 in
theorem hh_X11_loss_0 : scH Tm invM cc_X11_loss_0 := scCheck_ok (X := xx_X11_loss_0) (nodes := []) (fuel := 4000) ⟨lqX11, fa_cons (⟨⟨2, _, pcv_X11_340, rfl⟩, hh_X11_noPart_0⟩) (fa_cons (⟨pcs_X11_345, hh_hand_partOf⟩) (fa_nil))⟩ dtX11_loss (by decide +kernel)
abbrev cc_X11_noPart_1 : scC := (qX11_noPart, 1, [((-2147483648), 2147483647)], [.inr (.inr (.inl [0])), .inl (some 0, 0), .inl (none, 2)], [((0, 0), (none, 0))], [(1, (0, 0), [], [(0, (0, 1))], [((0, 0), (0, 0))]), (1, (1, 1), [], [], [((0, 0), (2, 2))])], [(0, 0, 1), (2, 1, 1)])
set_option maxRecDepth 20000 in
abbrev xx_X11_noPart_1 : scX := (Tm, invM, lnX11, [(135, 1, 0, cc_X11_in_5), (177, 0, 11, cc_X11_bad_3), (177, 0, 11, cc_X11_bad_4)], cc_X11_noPart_1)
set_option maxRecDepth 20000 in
theorem hh_X11_noPart_1 : scH Tm invM cc_X11_noPart_1 := scCheck_ok (X := xx_X11_noPart_1) (nodes := []) (fuel := 4000) ⟨lqX11, fa_cons (⟨pcs_X11_135, hh_X11_in_5⟩) (fa_cons (⟨⟨3, _, pcv_X11_177, rfl⟩, hh_X11_bad_3⟩) (fa_cons (⟨⟨3, _, pcv_X11_177, rfl⟩, hh_X11_bad_4⟩) (fa_nil)))⟩ dtX11_noPart (by decide +kernel)
abbrev cc_X11_cost_0 : scC := (qX11_cost, 8, [((-2147483648), 2147483647), ((-2147483648), 2147483647)], [.inr (.inr (.inl [0])), .inl (some 0, 0), .inl (some 1, 0)], [], [(2, ((-9223372036854775808), 9223372036854775807), [], [], [])], [(0, 0, 1), (2, 0, 2), (5, 0, 160), (6, 0, 5)])
set_option maxRecDepth 20000 in
abbrev xx_X11_cost_0 : scX := (Tm, invM, lnX11, [(177, 0, 11, cc_X11_bad_2), (177, 0, 11, cc_X11_bad_5), (293, 0, 11, cc_X11_costOf_1), (331, 0, 11, cc_X11_isLife_0), (340, 0, 11, cc_X11_noPart_1), (345, 1, 0, cc_hand_partOf)], cc_X11_cost_0)
set_option maxRecDepth 20000 in
theorem hh_X11_cost_0 : scH Tm invM cc_X11_cost_0 := scCheck_ok (X := xx_X11_cost_0) (nodes := []) (fuel := 4000) ⟨lqX11, fa_cons (⟨⟨3, _, pcv_X11_177, rfl⟩, hh_X11_bad_2⟩) (fa_cons (⟨⟨3, _, pcv_X11_177, rfl⟩, hh_X11_bad_5⟩) (fa_cons (⟨⟨2, _, pcv_X11_293, rfl⟩, hh_X11_costOf_1⟩) (fa_cons (⟨⟨1, _, pcv_X11_331, rfl⟩, hh_X11_isLife_0⟩) (fa_cons (⟨⟨2, _, pcv_X11_340, rfl⟩, hh_X11_noPart_1⟩) (fa_cons (⟨pcs_X11_345, hh_hand_partOf⟩) (fa_nil))))))⟩ dtX11_cost (by decide +kernel)
abbrev cc_X11_riskOf_0 : scC := (qX11_riskOf, 8, [], [.inr (.inr (.inl [0])), .inr (.inr (.inl [7]))], [], [(2, ((-9223372036854775808), 9223372036854775807), [], [], [])], [(5, 0, 160), (6, 0, 5)])
set_option maxRecDepth 20000 in
abbrev xx_X11_riskOf_0 : scX := (Tm, invM, lnX11, [(293, 0, 11, cc_X11_costOf_1)], cc_X11_riskOf_0)
set_option maxRecDepth 20000 in
theorem hh_X11_riskOf_0 : scH Tm invM cc_X11_riskOf_0 := scCheck_ok (X := xx_X11_riskOf_0) (nodes := [(5, ([(0, 8), (0, 64), (0, 8)], [some (.inr (.inr (.inl [0]))), some (.inr (.inr (.inl [7]))), some (.inr (.inl ((-9223372036854775808), 9223372036854775807))), none, some (.inl (some 0, 0))], [], [((35, 1), (some 1, 0)), ((4, 0), (some 2, 0))]), ([(-2)], 16))]) (fuel := 4000) ⟨lqX11, fa_cons (⟨⟨2, _, pcv_X11_293, rfl⟩, hh_X11_costOf_1⟩) (fa_nil)⟩ dtX11_riskOf (by decide +kernel)
abbrev cc_X11_risk_0 : scC := (qX11_risk, 9, [((-2147483648), 2147483647)], [.inr (.inr (.inl [0])), .inl (some 0, 0)], [], [(2, ((-9223372036854775808), 9223372036854775807), [], [], [])], [(0, 0, 1), (2, 1, 1), (5, 0, 160), (6, 0, 5)])
set_option maxRecDepth 20000 in
abbrev xx_X11_risk_0 : scX := (Tm, invM, lnX11, [(340, 0, 11, cc_X11_noPart_0), (345, 1, 0, cc_hand_partOf), (349, 0, 11, cc_X11_riskOf_0)], cc_X11_risk_0)
set_option maxRecDepth 20000 in
theorem hh_X11_risk_0 : scH Tm invM cc_X11_risk_0 := scCheck_ok (X := xx_X11_risk_0) (nodes := []) (fuel := 4000) ⟨lqX11, fa_cons (⟨⟨2, _, pcv_X11_340, rfl⟩, hh_X11_noPart_0⟩) (fa_cons (⟨pcs_X11_345, hh_hand_partOf⟩) (fa_cons (⟨⟨1, _, pcv_X11_349, rfl⟩, hh_X11_riskOf_0⟩) (fa_nil)))⟩ dtX11_risk (by decide +kernel)
abbrev cc_X11_mayWrite_1 : scC := (qX11_mayWrite, 1, [(0, 7)], [.inr (.inr (.inl [0])), .inr (.inr (.inl [7])), .inl (some 0, 0)], [], [(1, (0, 1), [], [], [])], [])
set_option maxRecDepth 20000 in
abbrev xx_X11_mayWrite_1 : scX := (Tm, invM, lnX11, [(256, 1, 0, cc_X11_has_0)], cc_X11_mayWrite_1)
set_option maxRecDepth 20000 in
theorem hh_X11_mayWrite_1 : scH Tm invM cc_X11_mayWrite_1 := scCheck_ok (X := xx_X11_mayWrite_1) (nodes := []) (fuel := 4000) ⟨lqX11, fa_cons (⟨pcs_X11_256, hh_X11_has_0⟩) (fa_nil)⟩ dtX11_mayWrite (by decide +kernel)
abbrev cc_X11_saved_1 : scC := (qX11_saved, 8, [(0, 0)], [.inr (.inr (.inl [0])), .inr (.inr (.inl [7])), .inl (some 0, 0)], [], [(1, (0, 2147483647), [], [], [])], [(5, 0, 160), (6, 0, 5)])
set_option maxRecDepth 20000 in
abbrev xx_X11_saved_1 : scX := (Tm, invM, lnX11, [(280, 0, 11, cc_X11_costIn_1), (293, 0, 11, cc_X11_costOf_1), (296, 0, 11, cc_X11_mayWrite_1)], cc_X11_saved_1)
set_option maxRecDepth 20000 in
theorem hh_X11_saved_1 : scH Tm invM cc_X11_saved_1 := scCheck_ok (X := xx_X11_saved_1) (nodes := []) (fuel := 4000) ⟨lqX11, fa_cons (⟨⟨4, _, pcv_X11_280, rfl⟩, hh_X11_costIn_1⟩) (fa_cons (⟨⟨2, _, pcv_X11_293, rfl⟩, hh_X11_costOf_1⟩) (fa_cons (⟨⟨2, _, pcv_X11_296, rfl⟩, hh_X11_mayWrite_1⟩) (fa_nil)))⟩ dtX11_saved (by decide +kernel)
abbrev cc_X11_hoursFor_1 : scC := (qX11_hoursFor, 2, [(0, 0)], [.inr (.inr (.inl [0])), .inr (.inr (.inl [7])), .inl (some 0, 0)], [], [(1, (0, 9), [], [], [])], [])
set_option maxRecDepth 20000 in
abbrev xx_X11_hoursFor_1 : scX := (Tm, invM, lnX11, [(283, 1, 0, cc_X11_hasPiece_1), (287, 0, 11, cc_X11_renewHours_0)], cc_X11_hoursFor_1)
set_option maxRecDepth 20000 in
theorem hh_X11_hoursFor_1 : scH Tm invM cc_X11_hoursFor_1 := scCheck_ok (X := xx_X11_hoursFor_1) (nodes := []) (fuel := 4000) ⟨lqX11, fa_cons (⟨pcs_X11_283, hh_X11_hasPiece_1⟩) (fa_cons (⟨⟨1, _, pcv_X11_287, rfl⟩, hh_X11_renewHours_0⟩) (fa_nil))⟩ dtX11_hoursFor (by decide +kernel)
abbrev cc_X11_saved_2 : scC := (qX11_saved, 8, [(0, 1)], [.inr (.inr (.inl [0])), .inr (.inr (.inl [7])), .inl (some 0, 0)], [], [(1, (0, 2147483647), [], [], [])], [(5, 0, 160), (6, 0, 5)])
set_option maxRecDepth 20000 in
abbrev xx_X11_saved_2 : scX := (Tm, invM, lnX11, [(280, 0, 11, cc_X11_costIn_1), (293, 0, 11, cc_X11_costOf_1), (296, 0, 11, cc_X11_mayWrite_1)], cc_X11_saved_2)
set_option maxRecDepth 20000 in
theorem hh_X11_saved_2 : scH Tm invM cc_X11_saved_2 := scCheck_ok (X := xx_X11_saved_2) (nodes := []) (fuel := 4000) ⟨lqX11, fa_cons (⟨⟨4, _, pcv_X11_280, rfl⟩, hh_X11_costIn_1⟩) (fa_cons (⟨⟨2, _, pcv_X11_293, rfl⟩, hh_X11_costOf_1⟩) (fa_cons (⟨⟨2, _, pcv_X11_296, rfl⟩, hh_X11_mayWrite_1⟩) (fa_nil)))⟩ dtX11_saved (by decide +kernel)
abbrev cc_X11_hoursFor_2 : scC := (qX11_hoursFor, 2, [(0, 1)], [.inr (.inr (.inl [0])), .inr (.inr (.inl [7])), .inl (some 0, 0)], [], [(1, (0, 9), [], [], [])], [])
set_option maxRecDepth 20000 in
abbrev xx_X11_hoursFor_2 : scX := (Tm, invM, lnX11, [(283, 1, 0, cc_X11_hasPiece_1), (287, 0, 11, cc_X11_renewHours_0)], cc_X11_hoursFor_2)
set_option maxRecDepth 20000 in
theorem hh_X11_hoursFor_2 : scH Tm invM cc_X11_hoursFor_2 := scCheck_ok (X := xx_X11_hoursFor_2) (nodes := []) (fuel := 4000) ⟨lqX11, fa_cons (⟨pcs_X11_283, hh_X11_hasPiece_1⟩) (fa_cons (⟨⟨1, _, pcv_X11_287, rfl⟩, hh_X11_renewHours_0⟩) (fa_nil))⟩ dtX11_hoursFor (by decide +kernel)
abbrev cc_X11_saved_3 : scC := (qX11_saved, 8, [(0, 2)], [.inr (.inr (.inl [0])), .inr (.inr (.inl [7])), .inl (some 0, 0)], [], [(1, (0, 2147483647), [], [], [])], [(5, 0, 160), (6, 0, 5)])
set_option maxRecDepth 20000 in
abbrev xx_X11_saved_3 : scX := (Tm, invM, lnX11, [(280, 0, 11, cc_X11_costIn_1), (293, 0, 11, cc_X11_costOf_1), (296, 0, 11, cc_X11_mayWrite_1)], cc_X11_saved_3)
set_option maxRecDepth 20000 in
theorem hh_X11_saved_3 : scH Tm invM cc_X11_saved_3 := scCheck_ok (X := xx_X11_saved_3) (nodes := []) (fuel := 4000) ⟨lqX11, fa_cons (⟨⟨4, _, pcv_X11_280, rfl⟩, hh_X11_costIn_1⟩) (fa_cons (⟨⟨2, _, pcv_X11_293, rfl⟩, hh_X11_costOf_1⟩) (fa_cons (⟨⟨2, _, pcv_X11_296, rfl⟩, hh_X11_mayWrite_1⟩) (fa_nil)))⟩ dtX11_saved (by decide +kernel)
abbrev cc_X11_hoursFor_3 : scC := (qX11_hoursFor, 2, [(0, 2)], [.inr (.inr (.inl [0])), .inr (.inr (.inl [7])), .inl (some 0, 0)], [], [(1, (0, 9), [], [], [])], [])
set_option maxRecDepth 20000 in
abbrev xx_X11_hoursFor_3 : scX := (Tm, invM, lnX11, [(283, 1, 0, cc_X11_hasPiece_1), (287, 0, 11, cc_X11_renewHours_0)], cc_X11_hoursFor_3)
set_option maxRecDepth 20000 in
theorem hh_X11_hoursFor_3 : scH Tm invM cc_X11_hoursFor_3 := scCheck_ok (X := xx_X11_hoursFor_3) (nodes := []) (fuel := 4000) ⟨lqX11, fa_cons (⟨pcs_X11_283, hh_X11_hasPiece_1⟩) (fa_cons (⟨⟨1, _, pcv_X11_287, rfl⟩, hh_X11_renewHours_0⟩) (fa_nil))⟩ dtX11_hoursFor (by decide +kernel)
abbrev cc_X11_saved_4 : scC := (qX11_saved, 8, [(0, 7)], [.inr (.inr (.inl [0])), .inr (.inr (.inl [7])), .inl (some 0, 0)], [], [(1, (0, 2147483647), [], [], [])], [(5, 0, 160), (6, 0, 5)])
set_option maxRecDepth 20000 in
abbrev xx_X11_saved_4 : scX := (Tm, invM, lnX11, [(280, 0, 11, cc_X11_costIn_1), (293, 0, 11, cc_X11_costOf_1), (296, 0, 11, cc_X11_mayWrite_1)], cc_X11_saved_4)
set_option maxRecDepth 20000 in
theorem hh_X11_saved_4 : scH Tm invM cc_X11_saved_4 := scCheck_ok (X := xx_X11_saved_4) (nodes := []) (fuel := 4000) ⟨lqX11, fa_cons (⟨⟨4, _, pcv_X11_280, rfl⟩, hh_X11_costIn_1⟩) (fa_cons (⟨⟨2, _, pcv_X11_293, rfl⟩, hh_X11_costOf_1⟩) (fa_cons (⟨⟨2, _, pcv_X11_296, rfl⟩, hh_X11_mayWrite_1⟩) (fa_nil)))⟩ dtX11_saved (by decide +kernel)
abbrev cc_X11_hoursFor_4 : scC := (qX11_hoursFor, 2, [(0, 7)], [.inr (.inr (.inl [0])), .inr (.inr (.inl [7])), .inl (some 0, 0)], [], [(1, (0, 9), [], [], [])], [])
set_option maxRecDepth 20000 in
abbrev xx_X11_hoursFor_4 : scX := (Tm, invM, lnX11, [(283, 1, 0, cc_X11_hasPiece_1), (287, 0, 11, cc_X11_renewHours_0)], cc_X11_hoursFor_4)
set_option maxRecDepth 20000 in
theorem hh_X11_hoursFor_4 : scH Tm invM cc_X11_hoursFor_4 := scCheck_ok (X := xx_X11_hoursFor_4) (nodes := []) (fuel := 4000) ⟨lqX11, fa_cons (⟨pcs_X11_283, hh_X11_hasPiece_1⟩) (fa_cons (⟨⟨1, _, pcv_X11_287, rfl⟩, hh_X11_renewHours_0⟩) (fa_nil))⟩ dtX11_hoursFor (by decide +kernel)
abbrev cc_X11_firstOf_0 : scC := (qX11_firstOf, 9, [(12, 12)], [.inr (.inr (.inl [0])), .inr (.inr (.inl [7])), .inl (some 0, 0)], [], [(1, ((-1), 7), [], [], [])], [(5, 0, 160), (6, 0, 5)])
set_option maxRecDepth 20000 in
abbrev xx_X11_firstOf_0 : scX := (Tm, invM, lnX11, [(290, 0, 11, cc_X11_hoursFor_1), (290, 0, 11, cc_X11_hoursFor_2), (290, 0, 11, cc_X11_hoursFor_3), (290, 0, 11, cc_X11_hoursFor_4), (355, 0, 11, cc_X11_saved_1), (355, 0, 11, cc_X11_saved_2), (355, 0, 11, cc_X11_saved_3), (355, 0, 11, cc_X11_saved_4)], cc_X11_firstOf_0)
set_option maxRecDepth 20000 in
theorem hh_X11_firstOf_0 : scH Tm invM cc_X11_firstOf_0 := scCheck_ok (X := xx_X11_firstOf_0) (nodes := [(5, ([(12, 12), ((-1), 7), (0, 8), (0, 8)], [some (.inr (.inr (.inl [0]))), some (.inr (.inr (.inl [7]))), some (.inl (some 0, 0)), some (.inl (some 1, 0)), some (.inl (some 2, 0))], [], [((4, 0), (some 3, 0))]), ([0, 0, (-2)], 16))]) (fuel := 4000) ⟨lqX11, fa_cons (⟨⟨2, _, pcv_X11_290, rfl⟩, hh_X11_hoursFor_1⟩) (fa_cons (⟨⟨2, _, pcv_X11_290, rfl⟩, hh_X11_hoursFor_2⟩) (fa_cons (⟨⟨2, _, pcv_X11_290, rfl⟩, hh_X11_hoursFor_3⟩) (fa_cons (⟨⟨2, _, pcv_X11_290, rfl⟩, hh_X11_hoursFor_4⟩) (fa_cons (⟨⟨2, _, pcv_X11_355, rfl⟩, hh_X11_saved_1⟩) (fa_cons (⟨⟨2, _, pcv_X11_355, rfl⟩, hh_X11_saved_2⟩) (fa_cons (⟨⟨2, _, pcv_X11_355, rfl⟩, hh_X11_saved_3⟩) (fa_cons (⟨⟨2, _, pcv_X11_355, rfl⟩, hh_X11_saved_4⟩) (fa_nil))))))))⟩ dtX11_firstOf (by decide +kernel)
abbrev cc_X11_first_0 : scC := (qX11_first, 10, [], [.inr (.inr (.inl [0]))], [], [(1, ((-1), 7), [], [], [])], [(0, 0, 1), (5, 0, 160), (6, 0, 5)])
set_option maxRecDepth 20000 in
abbrev xx_X11_first_0 : scX := (Tm, invM, lnX11, [(358, 0, 11, cc_X11_firstOf_0)], cc_X11_first_0)
set_option maxRecDepth 20000 in
theorem hh_X11_first_0 : scH Tm invM cc_X11_first_0 := scCheck_ok (X := xx_X11_first_0) (nodes := []) (fuel := 4000) ⟨lqX11, fa_cons (⟨⟨2, _, pcv_X11_358, rfl⟩, hh_X11_firstOf_0⟩) (fa_nil)⟩ dtX11_first (by decide +kernel)
abbrev cc_X11_lacking_0 : scC := (qX11_lacking, 1, [], [.inr (.inr (.inl [0]))], [], [(1, ((-2147483648), 2147483647), [], [], [])], [(0, 0, 1)])
set_option maxRecDepth 20000 in
abbrev xx_X11_lacking_0 : scX := (Tm, invM, lnX11, [(256, 1, 0, cc_X11_has_0), (283, 1, 0, cc_X11_hasPiece_1)], cc_X11_lacking_0)
set_option maxRecDepth 20000 in
theorem hh_X11_lacking_0 : scH Tm invM cc_X11_lacking_0 := scCheck_ok (X := xx_X11_lacking_0) (nodes := [(9, ([((-2147483648), 2147483647), (0, 8), (0, 0), ((-2147483648), 2147483647), (0, 8)], [some (.inr (.inr (.inl [0]))), some (.inl (some 0, 0)), some (.inl (some 1, 0))], [], [((0, 0), (some 2, 0)), ((7, 0), (some 3, 0)), ((4, 0), (some 4, 0))]), ([0, (-2)], 16))]) (fuel := 4000) ⟨lqX11, fa_cons (⟨pcs_X11_256, hh_X11_has_0⟩) (fa_cons (⟨pcs_X11_283, hh_X11_hasPiece_1⟩) (fa_nil))⟩ dtX11_lacking (by decide +kernel)
abbrev cc_X11_signed_0 : scC := (qX11_signed, 2, [], [.inr (.inr (.inl [0]))], [], [(1, ((-2147483648), 2147483647), [], [], [])], [(0, 0, 1)])
set_option maxRecDepth 20000 in
abbrev xx_X11_signed_0 : scX := (Tm, invM, lnX11, [(266, 0, 11, cc_X11_isByDead_1), (283, 1, 0, cc_X11_hasPiece_1)], cc_X11_signed_0)
set_option maxRecDepth 20000 in
theorem hh_X11_signed_0 : scH Tm invM cc_X11_signed_0 := scCheck_ok (X := xx_X11_signed_0) (nodes := [(9, ([((-2147483648), 2147483647), (0, 8), (0, 0), (0, 8)], [some (.inr (.inr (.inl [0]))), some (.inl (some 0, 0)), some (.inl (some 1, 0))], [], [((0, 0), (some 2, 0)), ((4, 0), (some 3, 0))]), ([0, (-2)], 16))]) (fuel := 4000) ⟨lqX11, fa_cons (⟨⟨2, _, pcv_X11_266, rfl⟩, hh_X11_isByDead_1⟩) (fa_cons (⟨pcs_X11_283, hh_X11_hasPiece_1⟩) (fa_nil))⟩ dtX11_signed (by decide +kernel)
abbrev cc_X11_in_7 : scC := (qX11_in, 0, [((-2147483648), 2147483647), (0, 0), (65, 65)], [.inl (some 0, 0), .inl (some 1, 0), .inl (some 2, 0)], [], [(1, (0, 0), [], [], []), (1, (1, 1), [], [(0, (0, 65))], [])], [])
set_option maxRecDepth 20000 in
abbrev xx_X11_in_7 : scX := (Tm, invM, lnX11, [], cc_X11_in_7)
set_option maxRecDepth 20000 in
theorem hh_X11_in_7 : scH Tm invM cc_X11_in_7 := scCheck_ok (X := xx_X11_in_7) (nodes := []) (fuel := 4000) ⟨lqX11, fa_nil⟩ dtX11_in (by decide +kernel)
abbrev cc_X11_stale_0 : scC := (qX11_stale, 7, [((-2147483648), 2147483647)], [.inr (.inr (.inl [0])), .inl (some 0, 0)], [], [(1, ((-2147483648), 2147483647), [], [], [])], [(0, 0, 1), (2, 1, 1), (5, 0, 160), (6, 0, 5)])
set_option maxRecDepth 20000 in
abbrev xx_X11_stale_0 : scX := (Tm, invM, lnX11, [(135, 1, 0, cc_X11_in_7), (177, 0, 11, cc_X11_bad_0), (177, 0, 11, cc_X11_bad_1), (283, 1, 0, cc_X11_hasPiece_1), (337, 0, 11, cc_X11_wrongOf_0)], cc_X11_stale_0)
set_option maxRecDepth 20000 in
theorem hh_X11_stale_0 : scH Tm invM cc_X11_stale_0 := scCheck_ok (X := xx_X11_stale_0) (nodes := [(35, ([(0, 65), ((-2147483648), 2147483647), (0, 8), (0, 0), (0, 8)], [some (.inr (.inr (.inl [0]))), some (.inl (some 0, 0)), some (.inl (some 1, 0)), some (.inl (some 2, 0))], [], [((0, 0), (some 3, 0)), ((4, 0), (some 4, 0))]), ([0, 0, (-2)], 16))]) (fuel := 4000) ⟨lqX11, fa_cons (⟨pcs_X11_135, hh_X11_in_7⟩) (fa_cons (⟨⟨3, _, pcv_X11_177, rfl⟩, hh_X11_bad_0⟩) (fa_cons (⟨⟨3, _, pcv_X11_177, rfl⟩, hh_X11_bad_1⟩) (fa_cons (⟨pcs_X11_283, hh_X11_hasPiece_1⟩) (fa_cons (⟨⟨1, _, pcv_X11_337, rfl⟩, hh_X11_wrongOf_0⟩) (fa_nil)))))⟩ dtX11_stale (by decide +kernel)
abbrev cc_X11_in_8 : scC := (qX11_in, 0, [((-2147483648), 2147483647), (1, 1), (3, 3)], [.inl (some 0, 0), .inl (some 1, 0), .inl (some 2, 0)], [], [(1, (0, 0), [], [], []), (1, (1, 1), [], [(0, (1, 3))], [])], [])
set_option maxRecDepth 20000 in
abbrev xx_X11_in_8 : scX := (Tm, invM, lnX11, [], cc_X11_in_8)
set_option maxRecDepth 20000 in
theorem hh_X11_in_8 : scH Tm invM cc_X11_in_8 := scCheck_ok (X := xx_X11_in_8) (nodes := []) (fuel := 4000) ⟨lqX11, fa_nil⟩ dtX11_in (by decide +kernel)
abbrev cc_X11_roomOf_0 : scC := (qX11_roomOf, 0, [(0, 12), (1, 12), (1, 12)], [.inl (some 0, 0), .inl (some 1, 0), .inl (some 2, 0)], [], [(1, (14, 2196), [], [], [])], [])
set_option maxRecDepth 20000 in
abbrev xx_X11_roomOf_0 : scX := (Tm, invM, lnX11, [], cc_X11_roomOf_0)
set_option maxRecDepth 20000 in
theorem hh_X11_roomOf_0 : scH Tm invM cc_X11_roomOf_0 := scCheck_ok (X := xx_X11_roomOf_0) (nodes := []) (fuel := 4000) ⟨lqX11, fa_nil⟩ dtX11_roomOf (by decide +kernel)
abbrev cc_X11_power_1 : scC := (qX11_power, 0, [((-2147483648), 2147483647)], [.inr (.inl ((-9223372036854775808), 9223372036854775807)), .inl (some 0, 0)], [], [(2, ((-9223372036854775808), 9223372036854775807), [], [], [])], [])
set_option maxRecDepth 20000 in
abbrev xx_X11_power_1 : scX := (Tm, invM, lnX11, [], cc_X11_power_1)
set_option maxRecDepth 20000 in
theorem hh_X11_power_1 : scH Tm invM cc_X11_power_1 := scCheck_ok (X := xx_X11_power_1) (nodes := [(5, ([((-2147483648), 2147483647), (0, 2147483647)], [some (.inr (.inl ((-9223372036854775808), 9223372036854775807))), none, some (.inl (some 0, 0)), some (.inr (.inl ((-9223372036854775808), 9223372036854775807))), none, some (.inl (some 1, 0))], [], []), ([0, (-2)], 4294967294))]) (fuel := 4000) ⟨lqX11, fa_nil⟩ dtX11_power (by decide +kernel)
abbrev cc_X11_yearsOf_1 : scC := (qX11_yearsOf, 0, [(0, 0), (0, 255)], [.inr (.inr (.inl [0])), .inl (some 0, 0), .inl (some 1, 0)], [], [(1, (0, 365), [], [], [])], [])
set_option maxRecDepth 20000 in
abbrev xx_X11_yearsOf_1 : scX := (Tm, invM, lnX11, [], cc_X11_yearsOf_1)
set_option maxRecDepth 20000 in
theorem hh_X11_yearsOf_1 : scH Tm invM cc_X11_yearsOf_1 := scCheck_ok (X := xx_X11_yearsOf_1) (nodes := []) (fuel := 4000) ⟨lqX11, fa_nil⟩ dtX11_yearsOf (by decide +kernel)
abbrev cc_X11_wrongIn_2 : scC := (qX11_wrongIn, 5, [(0, 0), (0, 255), (0, 255)], [.inr (.inr (.inl [0])), .inr (.inr (.inl [7])), .inl (some 0, 0), .inl (some 1, 0), .inl (some 2, 0)], [], [(1, (0, 64), [], [], [])], [(5, 0, 160), (6, 0, 5)])
set_option maxRecDepth 20000 in
abbrev xx_X11_wrongIn_2 : scX := (Tm, invM, lnX11, [(263, 0, 11, cc_X11_yearsOf_1), (266, 0, 11, cc_X11_isByDead_1), (270, 0, 11, cc_X11_changesOf_0), (273, 0, 11, cc_X11_wrongBy_0)], cc_X11_wrongIn_2)
set_option maxRecDepth 20000 in
theorem hh_X11_wrongIn_2 : scH Tm invM cc_X11_wrongIn_2 := scCheck_ok (X := xx_X11_wrongIn_2) (nodes := []) (fuel := 4000) ⟨lqX11, fa_cons (⟨⟨2, _, pcv_X11_263, rfl⟩, hh_X11_yearsOf_1⟩) (fa_cons (⟨⟨2, _, pcv_X11_266, rfl⟩, hh_X11_isByDead_1⟩) (fa_cons (⟨⟨3, _, pcv_X11_270, rfl⟩, hh_X11_changesOf_0⟩) (fa_cons (⟨⟨5, _, pcv_X11_273, rfl⟩, hh_X11_wrongBy_0⟩) (fa_nil))))⟩ dtX11_wrongIn (by decide +kernel)
abbrev cc_X11_costIn_2 : scC := (qX11_costIn, 6, [(0, 0), (0, 255), (0, 255)], [.inr (.inr (.inl [0])), .inr (.inr (.inl [7])), .inl (some 0, 0), .inl (some 1, 0), .inl (some 2, 0)], [], [(1, (0, 57024), [], [], [])], [(5, 0, 160), (6, 0, 5)])
set_option maxRecDepth 20000 in
abbrev xx_X11_costIn_2 : scX := (Tm, invM, lnX11, [(276, 0, 11, cc_X11_wrongIn_2)], cc_X11_costIn_2)
set_option maxRecDepth 20000 in
theorem hh_X11_costIn_2 : scH Tm invM cc_X11_costIn_2 := scCheck_ok (X := xx_X11_costIn_2) (nodes := []) (fuel := 4000) ⟨lqX11, fa_cons (⟨⟨4, _, pcv_X11_276, rfl⟩, hh_X11_wrongIn_2⟩) (fa_nil)⟩ dtX11_costIn (by decide +kernel)
abbrev cc_X11_wrongIn_3 : scC := (qX11_wrongIn, 5, [(0, 0), ((-1000), 200), (0, 255)], [.inr (.inr (.inl [0])), .inr (.inr (.inl [7])), .inl (some 0, 0), .inl (some 1, 0), .inl (some 2, 0)], [], [(1, (0, 64), [], [], [])], [(5, 0, 160), (6, 0, 5)])
set_option maxRecDepth 20000 in
abbrev xx_X11_wrongIn_3 : scX := (Tm, invM, lnX11, [(263, 0, 11, cc_X11_yearsOf_1), (266, 0, 11, cc_X11_isByDead_1), (270, 0, 11, cc_X11_changesOf_0), (273, 0, 11, cc_X11_wrongBy_0)], cc_X11_wrongIn_3)
set_option maxRecDepth 20000 in
theorem hh_X11_wrongIn_3 : scH Tm invM cc_X11_wrongIn_3 := scCheck_ok (X := xx_X11_wrongIn_3) (nodes := []) (fuel := 4000) ⟨lqX11, fa_cons (⟨⟨2, _, pcv_X11_263, rfl⟩, hh_X11_yearsOf_1⟩) (fa_cons (⟨⟨2, _, pcv_X11_266, rfl⟩, hh_X11_isByDead_1⟩) (fa_cons (⟨⟨3, _, pcv_X11_270, rfl⟩, hh_X11_changesOf_0⟩) (fa_cons (⟨⟨5, _, pcv_X11_273, rfl⟩, hh_X11_wrongBy_0⟩) (fa_nil))))⟩ dtX11_wrongIn (by decide +kernel)
abbrev cc_X11_costIn_3 : scC := (qX11_costIn, 6, [(0, 0), ((-1000), 200), (0, 255)], [.inr (.inr (.inl [0])), .inr (.inr (.inl [7])), .inl (some 0, 0), .inl (some 1, 0), .inl (some 2, 0)], [], [(1, (0, 57024), [], [], [])], [(5, 0, 160), (6, 0, 5)])
set_option maxRecDepth 20000 in
abbrev xx_X11_costIn_3 : scX := (Tm, invM, lnX11, [(276, 0, 11, cc_X11_wrongIn_3)], cc_X11_costIn_3)
set_option maxRecDepth 20000 in
theorem hh_X11_costIn_3 : scH Tm invM cc_X11_costIn_3 := scCheck_ok (X := xx_X11_costIn_3) (nodes := []) (fuel := 4000) ⟨lqX11, fa_cons (⟨⟨4, _, pcv_X11_276, rfl⟩, hh_X11_wrongIn_3⟩) (fa_nil)⟩ dtX11_costIn (by decide +kernel)
abbrev cc_X11_wrongIn_4 : scC := (qX11_wrongIn, 5, [(0, 0), ((-1000), 600), (0, 255)], [.inr (.inr (.inl [0])), .inr (.inr (.inl [7])), .inl (some 0, 0), .inl (some 1, 0), .inl (some 2, 0)], [], [(1, (0, 64), [], [], [])], [(5, 0, 160), (6, 0, 5)])
set_option maxRecDepth 20000 in
abbrev xx_X11_wrongIn_4 : scX := (Tm, invM, lnX11, [(263, 0, 11, cc_X11_yearsOf_1), (266, 0, 11, cc_X11_isByDead_1), (270, 0, 11, cc_X11_changesOf_0), (273, 0, 11, cc_X11_wrongBy_0)], cc_X11_wrongIn_4)
set_option maxRecDepth 20000 in
theorem hh_X11_wrongIn_4 : scH Tm invM cc_X11_wrongIn_4 := scCheck_ok (X := xx_X11_wrongIn_4) (nodes := []) (fuel := 4000) ⟨lqX11, fa_cons (⟨⟨2, _, pcv_X11_263, rfl⟩, hh_X11_yearsOf_1⟩) (fa_cons (⟨⟨2, _, pcv_X11_266, rfl⟩, hh_X11_isByDead_1⟩) (fa_cons (⟨⟨3, _, pcv_X11_270, rfl⟩, hh_X11_changesOf_0⟩) (fa_cons (⟨⟨5, _, pcv_X11_273, rfl⟩, hh_X11_wrongBy_0⟩) (fa_nil))))⟩ dtX11_wrongIn (by decide +kernel)
abbrev cc_X11_costIn_4 : scC := (qX11_costIn, 6, [(0, 0), ((-1000), 600), (0, 255)], [.inr (.inr (.inl [0])), .inr (.inr (.inl [7])), .inl (some 0, 0), .inl (some 1, 0), .inl (some 2, 0)], [], [(1, (0, 57024), [], [], [])], [(5, 0, 160), (6, 0, 5)])
set_option maxRecDepth 20000 in
abbrev xx_X11_costIn_4 : scX := (Tm, invM, lnX11, [(276, 0, 11, cc_X11_wrongIn_4)], cc_X11_costIn_4)
set_option maxRecDepth 20000 in
theorem hh_X11_costIn_4 : scH Tm invM cc_X11_costIn_4 := scCheck_ok (X := xx_X11_costIn_4) (nodes := []) (fuel := 4000) ⟨lqX11, fa_cons (⟨⟨4, _, pcv_X11_276, rfl⟩, hh_X11_wrongIn_4⟩) (fa_nil)⟩ dtX11_costIn (by decide +kernel)
abbrev cc_X11_isOption_0 : scC := (qX11_isOption, 7, [(0, 0), (1, 3), (0, 0)], [.inr (.inr (.inl [0])), .inl (some 0, 0), .inl (some 1, 0), .inl (some 2, 0)], [], [(1, (0, 1), [], [], [])], [(0, 43, 1), (5, 0, 160), (6, 0, 5), (13, 0, 3)])
set_option maxRecDepth 20000 in
abbrev xx_X11_isOption_0 : scX := (Tm, invM, lnX11, [(256, 1, 0, cc_X11_has_0), (280, 0, 11, cc_X11_costIn_2), (280, 0, 11, cc_X11_costIn_1), (280, 0, 11, cc_X11_costIn_3), (280, 0, 11, cc_X11_costIn_4), (287, 0, 11, cc_X11_renewHours_0), (365, 1, 0, cc_hand_power), (365, 1, 0, cc_X11_power_1)], cc_X11_isOption_0)
set_option maxRecDepth 20000 in
theorem hh_X11_isOption_0 : scH Tm invM cc_X11_isOption_0 := scCheck_ok (X := xx_X11_isOption_0) (nodes := [(28, ([(0, 0), (1, 3), (0, 0), ((-1000), 200), (0, 64), (0, 3), (0, 64), ((-1000), 200), (0, 9)], [some (.inr (.inr (.inl [0]))), some (.inl (some 0, 0)), some (.inl (some 1, 0)), some (.inl (some 2, 0)), some (.inl (some 3, 0)), some (.inl (some 4, 0)), some (.inl (some 5, 0)), none], [], [((35, 1), (some 6, 0)), ((7, 1), (some 7, 0)), ((13, 0), (some 8, 0))]), ([0, 0, 0, 0, 0, (-2)], 14)), (74, ([(0, 0), (1, 3), (0, 0), ((-1000), 600), (0, 64), (0, 3), ((-2147483648), 2147483647), (0, 64), ((-1000), 200), (0, 9), (0, 9), (0, 200)], [some (.inr (.inr (.inl [0]))), some (.inl (some 0, 0)), some (.inl (some 1, 0)), some (.inl (some 2, 0)), some (.inl (some 3, 0)), some (.inl (some 4, 0)), some (.inl (some 5, 0)), none], [], [((7, 0), (some 6, 0)), ((35, 1), (some 7, 0)), ((7, 1), (some 8, 0)), ((13, 0), (some 9, 0)), ((35, 3), (some 10, 0)), ((7, 10), (some 11, 0))]), ([0, 0, 0, 0, 0, (-2)], 6))]) (fuel := 4000) ⟨lqX11, fa_cons (⟨pcs_X11_256, hh_X11_has_0⟩) (fa_cons (⟨⟨4, _, pcv_X11_280, rfl⟩, hh_X11_costIn_2⟩) (fa_cons (⟨⟨4, _, pcv_X11_280, rfl⟩, hh_X11_costIn_1⟩) (fa_cons (⟨⟨4, _, pcv_X11_280, rfl⟩, hh_X11_costIn_3⟩) (fa_cons (⟨⟨4, _, pcv_X11_280, rfl⟩, hh_X11_costIn_4⟩) (fa_cons (⟨⟨1, _, pcv_X11_287, rfl⟩, hh_X11_renewHours_0⟩) (fa_cons (⟨pcs_X11_365, hh_hand_power⟩) (fa_cons (⟨pcs_X11_365, hh_X11_power_1⟩) (fa_nil))))))))⟩ dtX11_isOption (by decide +kernel)
abbrev cc_X11_isOption_1 : scC := (qX11_isOption, 7, [(0, 0), (1, 3), (0, 2147483647)], [.inr (.inr (.inl [0])), .inl (some 0, 0), .inl (some 1, 0), .inl (some 2, 0)], [], [(1, (0, 1), [], [], [])], [(0, 43, 1), (5, 0, 160), (6, 0, 5), (13, 0, 3)])
set_option maxRecDepth 20000 in
abbrev xx_X11_isOption_1 : scX := (Tm, invM, lnX11, [(256, 1, 0, cc_X11_has_0), (280, 0, 11, cc_X11_costIn_2), (280, 0, 11, cc_X11_costIn_1), (280, 0, 11, cc_X11_costIn_3), (280, 0, 11, cc_X11_costIn_4), (287, 0, 11, cc_X11_renewHours_0), (365, 1, 0, cc_hand_power), (365, 1, 0, cc_X11_power_1)], cc_X11_isOption_1)
set_option maxRecDepth 20000 in
theorem hh_X11_isOption_1 : scH Tm invM cc_X11_isOption_1 := scCheck_ok (X := xx_X11_isOption_1) (nodes := [(28, ([(0, 0), (1, 3), (0, 2147483647), ((-1000), 200), (0, 64), (0, 3), (0, 64), ((-1000), 200), (0, 9)], [some (.inr (.inr (.inl [0]))), some (.inl (some 0, 0)), some (.inl (some 1, 0)), some (.inl (some 2, 0)), some (.inl (some 3, 0)), some (.inl (some 4, 0)), some (.inl (some 5, 0)), none], [], [((35, 1), (some 6, 0)), ((7, 1), (some 7, 0)), ((13, 0), (some 8, 0))]), ([0, 0, 0, 0, 0, (-2)], 14)), (74, ([(0, 0), (1, 3), (0, 2147483647), ((-1000), 600), (0, 64), (0, 3), ((-2147483648), 2147483647), (0, 64), ((-1000), 200), (0, 9), (0, 9), (0, 200)], [some (.inr (.inr (.inl [0]))), some (.inl (some 0, 0)), some (.inl (some 1, 0)), some (.inl (some 2, 0)), some (.inl (some 3, 0)), some (.inl (some 4, 0)), some (.inl (some 5, 0)), none], [], [((7, 0), (some 6, 0)), ((35, 1), (some 7, 0)), ((7, 1), (some 8, 0)), ((13, 0), (some 9, 0)), ((35, 3), (some 10, 0)), ((7, 10), (some 11, 0))]), ([0, 0, 0, 0, 0, (-2)], 6))]) (fuel := 4000) ⟨lqX11, fa_cons (⟨pcs_X11_256, hh_X11_has_0⟩) (fa_cons (⟨⟨4, _, pcv_X11_280, rfl⟩, hh_X11_costIn_2⟩) (fa_cons (⟨⟨4, _, pcv_X11_280, rfl⟩, hh_X11_costIn_1⟩) (fa_cons (⟨⟨4, _, pcv_X11_280, rfl⟩, hh_X11_costIn_3⟩) (fa_cons (⟨⟨4, _, pcv_X11_280, rfl⟩, hh_X11_costIn_4⟩) (fa_cons (⟨⟨1, _, pcv_X11_287, rfl⟩, hh_X11_renewHours_0⟩) (fa_cons (⟨pcs_X11_365, hh_hand_power⟩) (fa_cons (⟨pcs_X11_365, hh_X11_power_1⟩) (fa_nil))))))))⟩ dtX11_isOption (by decide +kernel)
abbrev cc_X11_yearsOf_2 : scC := (qX11_yearsOf, 0, [(0, 7), (0, 255)], [.inr (.inr (.inl [0])), .inl (some 0, 0), .inl (some 1, 0)], [], [(1, (0, 365), [], [], [])], [])
set_option maxRecDepth 20000 in
abbrev xx_X11_yearsOf_2 : scX := (Tm, invM, lnX11, [], cc_X11_yearsOf_2)
set_option maxRecDepth 20000 in
theorem hh_X11_yearsOf_2 : scH Tm invM cc_X11_yearsOf_2 := scCheck_ok (X := xx_X11_yearsOf_2) (nodes := []) (fuel := 4000) ⟨lqX11, fa_nil⟩ dtX11_yearsOf (by decide +kernel)
end
-- P 12pb
section
abbrev cc_X11_wrongIn_5 : scC := (qX11_wrongIn, 5, [(0, 7), (0, 255), (0, 255)], [.inr (.inr (.inl [0])), .inr (.inr (.inl [7])), .inl (some 0, 0), .inl (some 1, 0), .inl (some 2, 0)], [], [(1, (0, 64), [], [], [])], [(5, 0, 160), (6, 0, 5)])
set_option maxRecDepth 20000 in
abbrev xx_X11_wrongIn_5 : scX := (Tm, invM, lnX11, [(263, 0, 11, cc_X11_yearsOf_2), (266, 0, 11, cc_X11_isByDead_1), (270, 0, 11, cc_X11_changesOf_0), (273, 0, 11, cc_X11_wrongBy_0)], cc_X11_wrongIn_5)
set_option maxRecDepth 20000 in
theorem hh_X11_wrongIn_5 : scH Tm invM cc_X11_wrongIn_5 := scCheck_ok (X := xx_X11_wrongIn_5) (nodes := []) (fuel := 4000) ⟨lqX11, fa_cons (⟨⟨2, _, pcv_X11_263, rfl⟩, hh_X11_yearsOf_2⟩) (fa_cons (⟨⟨2, _, pcv_X11_266, rfl⟩, hh_X11_isByDead_1⟩) (fa_cons (⟨⟨3, _, pcv_X11_270, rfl⟩, hh_X11_changesOf_0⟩) (fa_cons (⟨⟨5, _, pcv_X11_273, rfl⟩, hh_X11_wrongBy_0⟩) (fa_nil))))⟩ dtX11_wrongIn (by decide +kernel)
abbrev cc_X11_costIn_5 : scC := (qX11_costIn, 6, [(0, 7), (0, 255), (0, 255)], [.inr (.inr (.inl [0])), .inr (.inr (.inl [7])), .inl (some 0, 0), .inl (some 1, 0), .inl (some 2, 0)], [], [(1, (0, 57024), [], [], [])], [(5, 0, 160), (6, 0, 5)])
set_option maxRecDepth 20000 in
abbrev xx_X11_costIn_5 : scX := (Tm, invM, lnX11, [(276, 0, 11, cc_X11_wrongIn_5)], cc_X11_costIn_5)
set_option maxRecDepth 20000 in
theorem hh_X11_costIn_5 : scH Tm invM cc_X11_costIn_5 := scCheck_ok (X := xx_X11_costIn_5) (nodes := []) (fuel := 4000) ⟨lqX11, fa_cons (⟨⟨4, _, pcv_X11_276, rfl⟩, hh_X11_wrongIn_5⟩) (fa_nil)⟩ dtX11_costIn (by decide +kernel)
abbrev cc_X11_wrongIn_6 : scC := (qX11_wrongIn, 5, [(0, 7), ((-1000), 200), (0, 255)], [.inr (.inr (.inl [0])), .inr (.inr (.inl [7])), .inl (some 0, 0), .inl (some 1, 0), .inl (some 2, 0)], [], [(1, (0, 64), [], [], [])], [(5, 0, 160), (6, 0, 5)])
set_option maxRecDepth 20000 in
abbrev xx_X11_wrongIn_6 : scX := (Tm, invM, lnX11, [(263, 0, 11, cc_X11_yearsOf_2), (266, 0, 11, cc_X11_isByDead_1), (270, 0, 11, cc_X11_changesOf_0), (273, 0, 11, cc_X11_wrongBy_0)], cc_X11_wrongIn_6)
set_option maxRecDepth 20000 in
theorem hh_X11_wrongIn_6 : scH Tm invM cc_X11_wrongIn_6 := scCheck_ok (X := xx_X11_wrongIn_6) (nodes := []) (fuel := 4000) ⟨lqX11, fa_cons (⟨⟨2, _, pcv_X11_263, rfl⟩, hh_X11_yearsOf_2⟩) (fa_cons (⟨⟨2, _, pcv_X11_266, rfl⟩, hh_X11_isByDead_1⟩) (fa_cons (⟨⟨3, _, pcv_X11_270, rfl⟩, hh_X11_changesOf_0⟩) (fa_cons (⟨⟨5, _, pcv_X11_273, rfl⟩, hh_X11_wrongBy_0⟩) (fa_nil))))⟩ dtX11_wrongIn (by decide +kernel)
abbrev cc_X11_costIn_6 : scC := (qX11_costIn, 6, [(0, 7), ((-1000), 200), (0, 255)], [.inr (.inr (.inl [0])), .inr (.inr (.inl [7])), .inl (some 0, 0), .inl (some 1, 0), .inl (some 2, 0)], [], [(1, (0, 57024), [], [], [])], [(5, 0, 160), (6, 0, 5)])
set_option maxRecDepth 20000 in
abbrev xx_X11_costIn_6 : scX := (Tm, invM, lnX11, [(276, 0, 11, cc_X11_wrongIn_6)], cc_X11_costIn_6)
set_option maxRecDepth 20000 in
theorem hh_X11_costIn_6 : scH Tm invM cc_X11_costIn_6 := scCheck_ok (X := xx_X11_costIn_6) (nodes := []) (fuel := 4000) ⟨lqX11, fa_cons (⟨⟨4, _, pcv_X11_276, rfl⟩, hh_X11_wrongIn_6⟩) (fa_nil)⟩ dtX11_costIn (by decide +kernel)
abbrev cc_X11_wrongIn_7 : scC := (qX11_wrongIn, 5, [(0, 7), ((-1000), 600), (0, 255)], [.inr (.inr (.inl [0])), .inr (.inr (.inl [7])), .inl (some 0, 0), .inl (some 1, 0), .inl (some 2, 0)], [], [(1, (0, 64), [], [], [])], [(5, 0, 160), (6, 0, 5)])
set_option maxRecDepth 20000 in
abbrev xx_X11_wrongIn_7 : scX := (Tm, invM, lnX11, [(263, 0, 11, cc_X11_yearsOf_2), (266, 0, 11, cc_X11_isByDead_1), (270, 0, 11, cc_X11_changesOf_0), (273, 0, 11, cc_X11_wrongBy_0)], cc_X11_wrongIn_7)
set_option maxRecDepth 20000 in
theorem hh_X11_wrongIn_7 : scH Tm invM cc_X11_wrongIn_7 := scCheck_ok (X := xx_X11_wrongIn_7) (nodes := []) (fuel := 4000) ⟨lqX11, fa_cons (⟨⟨2, _, pcv_X11_263, rfl⟩, hh_X11_yearsOf_2⟩) (fa_cons (⟨⟨2, _, pcv_X11_266, rfl⟩, hh_X11_isByDead_1⟩) (fa_cons (⟨⟨3, _, pcv_X11_270, rfl⟩, hh_X11_changesOf_0⟩) (fa_cons (⟨⟨5, _, pcv_X11_273, rfl⟩, hh_X11_wrongBy_0⟩) (fa_nil))))⟩ dtX11_wrongIn (by decide +kernel)
abbrev cc_X11_costIn_7 : scC := (qX11_costIn, 6, [(0, 7), ((-1000), 600), (0, 255)], [.inr (.inr (.inl [0])), .inr (.inr (.inl [7])), .inl (some 0, 0), .inl (some 1, 0), .inl (some 2, 0)], [], [(1, (0, 57024), [], [], [])], [(5, 0, 160), (6, 0, 5)])
set_option maxRecDepth 20000 in
abbrev xx_X11_costIn_7 : scX := (Tm, invM, lnX11, [(276, 0, 11, cc_X11_wrongIn_7)], cc_X11_costIn_7)
set_option maxRecDepth 20000 in
theorem hh_X11_costIn_7 : scH Tm invM cc_X11_costIn_7 := scCheck_ok (X := xx_X11_costIn_7) (nodes := []) (fuel := 4000) ⟨lqX11, fa_cons (⟨⟨4, _, pcv_X11_276, rfl⟩, hh_X11_wrongIn_7⟩) (fa_nil)⟩ dtX11_costIn (by decide +kernel)
abbrev cc_X11_isOption_2 : scC := (qX11_isOption, 7, [(0, 7), (1, 3), (0, 2147483647)], [.inr (.inr (.inl [0])), .inl (some 0, 0), .inl (some 1, 0), .inl (some 2, 0)], [], [(1, (0, 1), [], [], [])], [(0, 43, 1), (5, 0, 160), (6, 0, 5), (13, 0, 3)])
set_option maxRecDepth 20000 in
abbrev xx_X11_isOption_2 : scX := (Tm, invM, lnX11, [(256, 1, 0, cc_X11_has_0), (280, 0, 11, cc_X11_costIn_5), (280, 0, 11, cc_X11_costIn_1), (280, 0, 11, cc_X11_costIn_6), (280, 0, 11, cc_X11_costIn_7), (287, 0, 11, cc_X11_renewHours_0), (365, 1, 0, cc_hand_power), (365, 1, 0, cc_X11_power_1)], cc_X11_isOption_2)
set_option maxRecDepth 20000 in
theorem hh_X11_isOption_2 : scH Tm invM cc_X11_isOption_2 := scCheck_ok (X := xx_X11_isOption_2) (nodes := [(28, ([(0, 7), (1, 3), (0, 2147483647), ((-1000), 200), (0, 64), (0, 3), (0, 9)], [some (.inr (.inr (.inl [0]))), some (.inl (some 0, 0)), some (.inl (some 1, 0)), some (.inl (some 2, 0)), some (.inl (some 3, 0)), some (.inl (some 4, 0)), some (.inl (some 5, 0)), none], [], [((13, 0), (some 6, 0))]), ([0, 0, 0, 0, 0, (-2)], 14)), (74, ([(0, 7), (1, 3), (0, 2147483647), ((-1000), 600), (0, 64), (0, 3), ((-2147483648), 2147483647), (0, 9), (0, 200)], [some (.inr (.inr (.inl [0]))), some (.inl (some 0, 0)), some (.inl (some 1, 0)), some (.inl (some 2, 0)), some (.inl (some 3, 0)), some (.inl (some 4, 0)), some (.inl (some 5, 0)), none], [], [((7, 0), (some 6, 0)), ((13, 0), (some 7, 0)), ((7, 10), (some 8, 0))]), ([0, 0, 0, 0, 0, (-2)], 6))]) (fuel := 4000) ⟨lqX11, fa_cons (⟨pcs_X11_256, hh_X11_has_0⟩) (fa_cons (⟨⟨4, _, pcv_X11_280, rfl⟩, hh_X11_costIn_5⟩) (fa_cons (⟨⟨4, _, pcv_X11_280, rfl⟩, hh_X11_costIn_1⟩) (fa_cons (⟨⟨4, _, pcv_X11_280, rfl⟩, hh_X11_costIn_6⟩) (fa_cons (⟨⟨4, _, pcv_X11_280, rfl⟩, hh_X11_costIn_7⟩) (fa_cons (⟨⟨1, _, pcv_X11_287, rfl⟩, hh_X11_renewHours_0⟩) (fa_cons (⟨pcs_X11_365, hh_hand_power⟩) (fa_cons (⟨pcs_X11_365, hh_X11_power_1⟩) (fa_nil))))))))⟩ dtX11_isOption (by decide +kernel)
abbrev cc_X11_laysBest_0 : scC := (qX11_laysBest, 8, [(1, 3)], [.inr (.inr (.inl [0])), .inl (some 0, 0)], [], [(1, (14, 2196), [], [], [])], [(0, 43, 1), (5, 0, 160), (6, 0, 5), (9, 0, 2197), (10, 0, 2197), (11, 0, 2197), (12, 0, 2197), (13, 0, 3)])
set_option maxRecDepth 20000 in
abbrev xx_X11_laysBest_0 : scX := (Tm, invM, lnX11, [(369, 1, 0, cc_X11_roomOf_0), (374, 0, 11, cc_X11_isOption_0), (374, 0, 11, cc_X11_isOption_1), (374, 0, 11, cc_X11_isOption_2), (377, 0, 11, cc_hand_laysOption)], cc_X11_laysBest_0)
set_option maxRecDepth 20000 in
theorem hh_X11_laysBest_0 : scH Tm invM cc_X11_laysBest_0 := scCheck_ok (X := xx_X11_laysBest_0) (nodes := [(2, ([(1, 3), (0, 2197)], [some (.inr (.inr (.inl [0]))), some (.inl (some 0, 0)), some (.inl (some 1, 0)), none], [], []), ([0, (-2)], 38654789204)), (31, ([(1, 3), (0, 8), (0, 8)], [some (.inr (.inr (.inl [0]))), some (.inl (some 0, 0)), some (.inl (some 1, 0)), none], [], [((4, 0), (some 2, 0))]), ([0, (-4294976090)], 38654784808)), (43, ([(1, 3), (0, 7), (0, 2197), (1, 8)], [some (.inr (.inr (.inl [0]))), some (.inl (some 0, 0)), some (.inl (some 1, 0)), some (.inl (some 2, 0))], [], [((4, 0), (some 3, 0))]), ([0, (-4294976090), (-2)], 38654784806)), (67, ([(1, 3), (0, 7), (0, 2147483647), (1, 8)], [some (.inr (.inr (.inl [0]))), some (.inl (some 0, 0)), some (.inl (some 1, 0)), some (.inl (some 2, 0))], [], [((4, 0), (some 3, 0))]), ([0, (-4294976090), (-2)], 38654780410)), (98, ([(1, 3), (0, 7), (0, 2197), (1, 8)], [some (.inr (.inr (.inl [0]))), some (.inl (some 0, 0)), some (.inl (some 1, 0)), some (.inl (some 2, 0))], [], [((4, 0), (some 3, 0))]), ([0, (-4294976090), (-2)], 34359813114))]) (fuel := 4000) ⟨lqX11, fa_cons (⟨pcs_X11_369, hh_X11_roomOf_0⟩) (fa_cons (⟨⟨3, _, pcv_X11_374, rfl⟩, hh_X11_isOption_0⟩) (fa_cons (⟨⟨3, _, pcv_X11_374, rfl⟩, hh_X11_isOption_1⟩) (fa_cons (⟨⟨3, _, pcv_X11_374, rfl⟩, hh_X11_isOption_2⟩) (fa_cons (⟨⟨2, _, pcv_X11_377, rfl⟩, hh_hand_laysOption⟩) (fa_nil)))))⟩ dtX11_laysBest (by decide +kernel)
abbrev cc_X11_best_0 : scC := (qX11_best, 9, [((-2147483648), 2147483647), ((-2147483648), 2147483647)], [.inr (.inr (.inl [0])), .inl (some 0, 0), .inl (some 1, 0)], [], [(2, ((-9223372036854775808), 9223372036854775807), [], [], [])], [(0, 0, 1), (0, 43, 1), (2, 1, 1), (5, 0, 160), (6, 0, 5), (9, 0, 2197), (10, 0, 2197), (11, 0, 2197), (12, 0, 2197), (13, 0, 3)])
set_option maxRecDepth 20000 in
abbrev xx_X11_best_0 : scX := (Tm, invM, lnX11, [(135, 1, 0, cc_X11_in_8), (177, 0, 11, cc_X11_bad_0), (177, 0, 11, cc_X11_bad_1), (340, 0, 11, cc_X11_noPart_0), (345, 1, 0, cc_hand_partOf), (365, 1, 0, cc_hand_power), (380, 0, 11, cc_X11_laysBest_0)], cc_X11_best_0)
set_option maxRecDepth 20000 in
theorem hh_X11_best_0 : scH Tm invM cc_X11_best_0 := scCheck_ok (X := xx_X11_best_0) (nodes := []) (fuel := 4000) ⟨lqX11, fa_cons (⟨pcs_X11_135, hh_X11_in_8⟩) (fa_cons (⟨⟨3, _, pcv_X11_177, rfl⟩, hh_X11_bad_0⟩) (fa_cons (⟨⟨3, _, pcv_X11_177, rfl⟩, hh_X11_bad_1⟩) (fa_cons (⟨⟨2, _, pcv_X11_340, rfl⟩, hh_X11_noPart_0⟩) (fa_cons (⟨pcs_X11_345, hh_hand_partOf⟩) (fa_cons (⟨pcs_X11_365, hh_hand_power⟩) (fa_cons (⟨⟨1, _, pcv_X11_380, rfl⟩, hh_X11_laysBest_0⟩) (fa_nil)))))))⟩ dtX11_best (by decide +kernel)
abbrev cc_X11_in_9 : scC := (qX11_in, 0, [((-2147483648), 2147483647), (0, 0), (0, 2)], [.inl (some 0, 0), .inl (some 1, 0), .inl (some 2, 0)], [], [(1, (0, 0), [], [], []), (1, (1, 1), [], [(0, (0, 2))], [])], [])
set_option maxRecDepth 20000 in
abbrev xx_X11_in_9 : scX := (Tm, invM, lnX11, [], cc_X11_in_9)
set_option maxRecDepth 20000 in
theorem hh_X11_in_9 : scH Tm invM cc_X11_in_9 := scCheck_ok (X := xx_X11_in_9) (nodes := []) (fuel := 4000) ⟨lqX11, fa_nil⟩ dtX11_in (by decide +kernel)
abbrev cc_X11_bestIn_0 : scC := (qX11_bestIn, 9, [((-2147483648), 2147483647), ((-2147483648), 2147483647)], [.inr (.inr (.inl [0])), .inl (some 0, 0), .inl (some 1, 0)], [], [(1, ((-2147483648), 2147483647), [], [], [])], [(0, 0, 1), (0, 43, 1), (2, 1, 1), (5, 0, 160), (6, 0, 5), (9, 0, 2197), (10, 0, 2197), (11, 0, 2197), (12, 0, 2197), (13, 0, 3)])
set_option maxRecDepth 20000 in
abbrev xx_X11_bestIn_0 : scX := (Tm, invM, lnX11, [(135, 1, 0, cc_X11_in_8), (135, 1, 0, cc_X11_in_9), (177, 0, 11, cc_X11_bad_0), (177, 0, 11, cc_X11_bad_1), (380, 0, 11, cc_X11_laysBest_0)], cc_X11_bestIn_0)
set_option maxRecDepth 20000 in
theorem hh_X11_bestIn_0 : scH Tm invM cc_X11_bestIn_0 := scCheck_ok (X := xx_X11_bestIn_0) (nodes := []) (fuel := 4000) ⟨lqX11, fa_cons (⟨pcs_X11_135, hh_X11_in_8⟩) (fa_cons (⟨pcs_X11_135, hh_X11_in_9⟩) (fa_cons (⟨⟨3, _, pcv_X11_177, rfl⟩, hh_X11_bad_0⟩) (fa_cons (⟨⟨3, _, pcv_X11_177, rfl⟩, hh_X11_bad_1⟩) (fa_cons (⟨⟨1, _, pcv_X11_380, rfl⟩, hh_X11_laysBest_0⟩) (fa_nil)))))⟩ dtX11_bestIn (by decide +kernel)
abbrev cc_X11_in_10 : scC := (qX11_in, 0, [((-2147483648), 2147483647), (0, 0), (999, 999)], [.inl (some 0, 0), .inl (some 1, 0), .inl (some 2, 0)], [], [(1, (0, 0), [], [], []), (1, (1, 1), [], [(0, (0, 999))], [])], [])
set_option maxRecDepth 20000 in
abbrev xx_X11_in_10 : scX := (Tm, invM, lnX11, [], cc_X11_in_10)
set_option maxRecDepth 20000 in
theorem hh_X11_in_10 : scH Tm invM cc_X11_in_10 := scCheck_ok (X := xx_X11_in_10) (nodes := []) (fuel := 4000) ⟨lqX11, fa_nil⟩ dtX11_in (by decide +kernel)
abbrev cc_X11_oftenBy_0 : scC := (qX11_oftenBy, 5, [(0, 7), ((-2147483648), 2147483647), (0, 7)], [.inr (.inr (.inl [0])), .inl (some 0, 0), .inl (some 1, 0), .inl (some 2, 0)], [], [(2, ((-9223372036854775808), 9223372036854775807), [], [], [])], [(5, 0, 160), (6, 0, 5)])
set_option maxRecDepth 20000 in
abbrev xx_X11_oftenBy_0 : scX := (Tm, invM, lnX11, [(263, 0, 11, cc_X11_yearsOf_0), (266, 0, 11, cc_X11_isByDead_1), (273, 0, 11, cc_X11_wrongBy_0), (287, 0, 11, cc_X11_renewHours_0)], cc_X11_oftenBy_0)
set_option maxRecDepth 20000 in
theorem hh_X11_oftenBy_0 : scH Tm invM cc_X11_oftenBy_0 := scCheck_ok (X := xx_X11_oftenBy_0) (nodes := [(18, ([(0, 7), ((-2147483648), 2147483647), (0, 7), (0, 7), (0, 200), (0, 9)], [some (.inr (.inr (.inl [0]))), some (.inl (some 0, 0)), some (.inl (some 1, 0)), some (.inl (some 2, 0)), some (.inr (.inl ((-9223372036854775808), 9223372036854775807))), none, some (.inl (some 3, 0))], [], [((7, 10), (some 4, 0)), ((4, 4), (some 5, 0))]), ([0, 0, 0, (-2)], 14))]) (fuel := 4000) ⟨lqX11, fa_cons (⟨⟨2, _, pcv_X11_263, rfl⟩, hh_X11_yearsOf_0⟩) (fa_cons (⟨⟨2, _, pcv_X11_266, rfl⟩, hh_X11_isByDead_1⟩) (fa_cons (⟨⟨5, _, pcv_X11_273, rfl⟩, hh_X11_wrongBy_0⟩) (fa_cons (⟨⟨1, _, pcv_X11_287, rfl⟩, hh_X11_renewHours_0⟩) (fa_nil))))⟩ dtX11_oftenBy (by decide +kernel)
abbrev cc_X11_oftenBy_1 : scC := (qX11_oftenBy, 5, [(0, 7), ((-2147483648), 2147483647), ((-2147483648), 2147483647)], [.inr (.inr (.inl [0])), .inl (some 0, 0), .inl (some 1, 0), .inl (some 2, 0)], [], [(2, ((-9223372036854775808), 9223372036854775807), [], [], [])], [(5, 0, 160), (6, 0, 5)])
set_option maxRecDepth 20000 in
abbrev xx_X11_oftenBy_1 : scX := (Tm, invM, lnX11, [(263, 0, 11, cc_X11_yearsOf_0), (266, 0, 11, cc_X11_isByDead_1), (273, 0, 11, cc_X11_wrongBy_0), (287, 0, 11, cc_X11_renewHours_0)], cc_X11_oftenBy_1)
set_option maxRecDepth 20000 in
theorem hh_X11_oftenBy_1 : scH Tm invM cc_X11_oftenBy_1 := scCheck_ok (X := xx_X11_oftenBy_1) (nodes := [(18, ([(0, 7), ((-2147483648), 2147483647), ((-2147483648), 2147483647), (0, 2147483647), (0, 200), (0, 9)], [some (.inr (.inr (.inl [0]))), some (.inl (some 0, 0)), some (.inl (some 1, 0)), some (.inl (some 2, 0)), some (.inr (.inl ((-9223372036854775808), 9223372036854775807))), none, some (.inl (some 3, 0))], [], [((7, 10), (some 4, 0)), ((4, 4), (some 5, 0))]), ([0, 0, 0, (-2)], 4294967294))]) (fuel := 4000) ⟨lqX11, fa_cons (⟨⟨2, _, pcv_X11_263, rfl⟩, hh_X11_yearsOf_0⟩) (fa_cons (⟨⟨2, _, pcv_X11_266, rfl⟩, hh_X11_isByDead_1⟩) (fa_cons (⟨⟨5, _, pcv_X11_273, rfl⟩, hh_X11_wrongBy_0⟩) (fa_cons (⟨⟨1, _, pcv_X11_287, rfl⟩, hh_X11_renewHours_0⟩) (fa_nil))))⟩ dtX11_oftenBy (by decide +kernel)
abbrev cc_X11_often_0 : scC := (qX11_often, 6, [((-2147483648), 2147483647), ((-2147483648), 2147483647)], [.inr (.inr (.inl [0])), .inl (some 0, 0), .inl (some 1, 0)], [], [(1, (0, 2147483647), [], [], [])], [(0, 0, 1), (2, 0, 2), (5, 0, 160), (6, 0, 5)])
set_option maxRecDepth 20000 in
abbrev xx_X11_often_0 : scX := (Tm, invM, lnX11, [(135, 1, 0, cc_X11_in_10), (177, 0, 11, cc_X11_bad_2), (177, 0, 11, cc_X11_bad_5), (177, 0, 11, cc_X11_bad_3), (177, 0, 11, cc_X11_bad_4), (331, 0, 11, cc_X11_isLife_0), (385, 0, 11, cc_X11_oftenBy_0), (385, 0, 11, cc_X11_oftenBy_1)], cc_X11_often_0)
set_option maxRecDepth 20000 in
theorem hh_X11_often_0 : scH Tm invM cc_X11_often_0 := scCheck_ok (X := xx_X11_often_0) (nodes := [(59, ([(0, 7), (0, 999), (1, 2147483647), (2, 31), (0, 0)], [some (.inr (.inr (.inl [0]))), some (.inl (some 0, 0)), some (.inl (some 1, 0)), some (.inl (some 2, 0)), some (.inl (some 3, 0))], [], [((0, 0), (some 4, 0))]), ([0, 0, 0, (-2)], 62))]) (fuel := 4000) ⟨lqX11, fa_cons (⟨pcs_X11_135, hh_X11_in_10⟩) (fa_cons (⟨⟨3, _, pcv_X11_177, rfl⟩, hh_X11_bad_2⟩) (fa_cons (⟨⟨3, _, pcv_X11_177, rfl⟩, hh_X11_bad_5⟩) (fa_cons (⟨⟨3, _, pcv_X11_177, rfl⟩, hh_X11_bad_3⟩) (fa_cons (⟨⟨3, _, pcv_X11_177, rfl⟩, hh_X11_bad_4⟩) (fa_cons (⟨⟨1, _, pcv_X11_331, rfl⟩, hh_X11_isLife_0⟩) (fa_cons (⟨⟨3, _, pcv_X11_385, rfl⟩, hh_X11_oftenBy_0⟩) (fa_cons (⟨⟨3, _, pcv_X11_385, rfl⟩, hh_X11_oftenBy_1⟩) (fa_nil))))))))⟩ dtX11_often (by decide +kernel)
abbrev cc_X11_in_11 : scC := (qX11_in, 0, [((-2147483648), 2147483647), (1, 1), (30, 30)], [.inl (some 0, 0), .inl (some 1, 0), .inl (some 2, 0)], [], [(1, (0, 0), [], [], []), (1, (1, 1), [], [(0, (1, 30))], [])], [])
set_option maxRecDepth 20000 in
abbrev xx_X11_in_11 : scX := (Tm, invM, lnX11, [], cc_X11_in_11)
set_option maxRecDepth 20000 in
theorem hh_X11_in_11 : scH Tm invM cc_X11_in_11 := scCheck_ok (X := xx_X11_in_11) (nodes := []) (fuel := 4000) ⟨lqX11, fa_nil⟩ dtX11_in (by decide +kernel)
abbrev cc_X11_yearly_0 : scC := (qX11_yearly, 6, [((-2147483648), 2147483647), ((-2147483648), 2147483647), ((-2147483648), 2147483647), ((-2147483648), 2147483647)], [.inr (.inr (.inl [0])), .inl (some 0, 0), .inl (some 1, 0), .inl (some 2, 0), .inl (some 3, 0)], [], [(2, ((-9223372036854775808), 9223372036854775807), [], [], [])], [(0, 0, 1), (2, 0, 2), (5, 0, 160), (6, 0, 5)])
set_option maxRecDepth 20000 in
abbrev xx_X11_yearly_0 : scX := (Tm, invM, lnX11, [(135, 1, 0, cc_X11_in_10), (135, 1, 0, cc_X11_in_11), (177, 0, 11, cc_X11_bad_2), (177, 0, 11, cc_X11_bad_5), (177, 0, 11, cc_X11_bad_3), (177, 0, 11, cc_X11_bad_4), (331, 0, 11, cc_X11_isLife_0), (340, 0, 11, cc_X11_noPart_1), (345, 1, 0, cc_hand_partOf), (385, 0, 11, cc_X11_oftenBy_1)], cc_X11_yearly_0)
set_option maxRecDepth 20000 in
theorem hh_X11_yearly_0 : scH Tm invM cc_X11_yearly_0 := scCheck_ok (X := xx_X11_yearly_0) (nodes := []) (fuel := 4000) ⟨lqX11, fa_cons (⟨pcs_X11_135, hh_X11_in_10⟩) (fa_cons (⟨pcs_X11_135, hh_X11_in_11⟩) (fa_cons (⟨⟨3, _, pcv_X11_177, rfl⟩, hh_X11_bad_2⟩) (fa_cons (⟨⟨3, _, pcv_X11_177, rfl⟩, hh_X11_bad_5⟩) (fa_cons (⟨⟨3, _, pcv_X11_177, rfl⟩, hh_X11_bad_3⟩) (fa_cons (⟨⟨3, _, pcv_X11_177, rfl⟩, hh_X11_bad_4⟩) (fa_cons (⟨⟨1, _, pcv_X11_331, rfl⟩, hh_X11_isLife_0⟩) (fa_cons (⟨⟨2, _, pcv_X11_340, rfl⟩, hh_X11_noPart_1⟩) (fa_cons (⟨pcs_X11_345, hh_hand_partOf⟩) (fa_cons (⟨⟨3, _, pcv_X11_385, rfl⟩, hh_X11_oftenBy_1⟩) (fa_nil))))))))))⟩ dtX11_yearly (by decide +kernel)
abbrev cc_X11_in_12 : scC := (qX11_in, 0, [((-2147483648), 2147483647), (0, 0), (16, 16)], [.inl (some 0, 0), .inl (some 1, 0), .inl (some 2, 0)], [], [(1, (0, 0), [], [], []), (1, (1, 1), [], [(0, (0, 16))], [])], [])
set_option maxRecDepth 20000 in
abbrev xx_X11_in_12 : scX := (Tm, invM, lnX11, [], cc_X11_in_12)
set_option maxRecDepth 20000 in
theorem hh_X11_in_12 : scH Tm invM cc_X11_in_12 := scCheck_ok (X := xx_X11_in_12) (nodes := []) (fuel := 4000) ⟨lqX11, fa_nil⟩ dtX11_in (by decide +kernel)
abbrev cc_X11_isRumour_0 : scC := (qX11_isRumour, 1, [((-2147483648), 2147483647), ((-2147483648), 2147483647), ((-2147483648), 2147483647), ((-2147483648), 2147483647)], [.inl (some 0, 0), .inl (some 1, 0), .inl (some 2, 0), .inl (some 3, 0)], [], [(1, (0, 0), [], [], []), (1, (1, 1), [], [(0, (0, 16)), (1, (0, 999)), (2, (0, 999)), (3, (0, 999))], [])], [])
set_option maxRecDepth 20000 in
abbrev xx_X11_isRumour_0 : scX := (Tm, invM, lnX11, [(135, 1, 0, cc_X11_in_12), (135, 1, 0, cc_X11_in_10)], cc_X11_isRumour_0)
set_option maxRecDepth 20000 in
theorem hh_X11_isRumour_0 : scH Tm invM cc_X11_isRumour_0 := scCheck_ok (X := xx_X11_isRumour_0) (nodes := []) (fuel := 4000) ⟨lqX11, fa_cons (⟨pcs_X11_135, hh_X11_in_12⟩) (fa_cons (⟨pcs_X11_135, hh_X11_in_10⟩) (fa_nil))⟩ dtX11_isRumour (by decide +kernel)
abbrev cc_X11_in_13 : scC := (qX11_in, 0, [((-2147483648), 2147483647), (0, 0), (2, 2)], [.inl (some 0, 0), .inl (some 1, 0), .inl (some 2, 0)], [], [(1, (0, 0), [], [], []), (1, (1, 1), [], [(0, (0, 2))], [])], [])
set_option maxRecDepth 20000 in
abbrev xx_X11_in_13 : scX := (Tm, invM, lnX11, [], cc_X11_in_13)
set_option maxRecDepth 20000 in
theorem hh_X11_in_13 : scH Tm invM cc_X11_in_13 := scCheck_ok (X := xx_X11_in_13) (nodes := []) (fuel := 4000) ⟨lqX11, fa_nil⟩ dtX11_in (by decide +kernel)
abbrev cc_X11_bringsBy_0 : scC := (qX11_bringsBy, 0, [(0, 16), (0, 16), (0, 999), (0, 999), (0, 999), (0, 2)], [.inl (some 0, 0), .inl (some 1, 0), .inl (some 2, 0), .inl (some 3, 0), .inl (some 4, 0), .inl (some 5, 0)], [], [(1, ((-2147483648), 2147483647), [], [], [])], [])
set_option maxRecDepth 20000 in
abbrev xx_X11_bringsBy_0 : scX := (Tm, invM, lnX11, [], cc_X11_bringsBy_0)
set_option maxRecDepth 20000 in
theorem hh_X11_bringsBy_0 : scH Tm invM cc_X11_bringsBy_0 := scCheck_ok (X := xx_X11_bringsBy_0) (nodes := []) (fuel := 4000) ⟨lqX11, fa_nil⟩ dtX11_bringsBy (by decide +kernel)
abbrev cc_X11_brings_0 : scC := (qX11_brings, 2, [((-2147483648), 2147483647), ((-2147483648), 2147483647), ((-2147483648), 2147483647), ((-2147483648), 2147483647), ((-2147483648), 2147483647), ((-2147483648), 2147483647)], [.inr (.inr (.inl [0])), .inl (some 0, 0), .inl (some 1, 0), .inl (some 2, 0), .inl (some 3, 0), .inl (some 4, 0), .inl (some 5, 0)], [], [(1, ((-2147483648), 2147483647), [], [], [])], [(0, 0, 1), (2, 1, 1)])
set_option maxRecDepth 20000 in
abbrev xx_X11_brings_0 : scX := (Tm, invM, lnX11, [(135, 1, 0, cc_X11_in_12), (135, 1, 0, cc_X11_in_13), (177, 0, 11, cc_X11_bad_0), (177, 0, 11, cc_X11_bad_1), (389, 1, 0, cc_X11_isRumour_0), (393, 1, 0, cc_X11_bringsBy_0)], cc_X11_brings_0)
set_option maxRecDepth 20000 in
theorem hh_X11_brings_0 : scH Tm invM cc_X11_brings_0 := scCheck_ok (X := xx_X11_brings_0) (nodes := []) (fuel := 4000) ⟨lqX11, fa_cons (⟨pcs_X11_135, hh_X11_in_12⟩) (fa_cons (⟨pcs_X11_135, hh_X11_in_13⟩) (fa_cons (⟨⟨3, _, pcv_X11_177, rfl⟩, hh_X11_bad_0⟩) (fa_cons (⟨⟨3, _, pcv_X11_177, rfl⟩, hh_X11_bad_1⟩) (fa_cons (⟨pcs_X11_389, hh_X11_isRumour_0⟩) (fa_cons (⟨pcs_X11_393, hh_X11_bringsBy_0⟩) (fa_nil))))))⟩ dtX11_brings (by decide +kernel)
abbrev cc_X11_saysBy_0 : scC := (qX11_saysBy, 1, [(0, 16), (0, 16), (0, 999), (0, 999), (0, 999)], [.inl (some 0, 0), .inl (some 1, 0), .inl (some 2, 0), .inl (some 3, 0), .inl (some 4, 0)], [], [(1, (0, 2), [], [], [])], [])
set_option maxRecDepth 20000 in
abbrev xx_X11_saysBy_0 : scX := (Tm, invM, lnX11, [(393, 1, 0, cc_X11_bringsBy_0)], cc_X11_saysBy_0)
set_option maxRecDepth 20000 in
theorem hh_X11_saysBy_0 : scH Tm invM cc_X11_saysBy_0 := scCheck_ok (X := xx_X11_saysBy_0) (nodes := [(6, ([(0, 16), (0, 16), (0, 999), (0, 999), (0, 999), (0, 2), (1, 3)], [some (.inl (some 0, 0)), some (.inl (some 1, 0)), some (.inl (some 2, 0)), some (.inl (some 3, 0)), some (.inl (some 4, 0)), some (.inl (some 5, 0)), some (.inl (some 6, 0))], [], []), ([0, 0, 0, 0, 0, 0, (-2)], 6))]) (fuel := 4000) ⟨lqX11, fa_cons (⟨pcs_X11_393, hh_X11_bringsBy_0⟩) (fa_nil)⟩ dtX11_saysBy (by decide +kernel)
abbrev cc_X11_says_0 : scC := (qX11_says, 2, [((-2147483648), 2147483647), ((-2147483648), 2147483647), ((-2147483648), 2147483647), ((-2147483648), 2147483647), ((-2147483648), 2147483647)], [.inr (.inr (.inl [0])), .inl (some 0, 0), .inl (some 1, 0), .inl (some 2, 0), .inl (some 3, 0), .inl (some 4, 0)], [], [(1, (0, 2), [], [], [])], [(0, 0, 1), (2, 1, 1)])
set_option maxRecDepth 20000 in
abbrev xx_X11_says_0 : scX := (Tm, invM, lnX11, [(135, 1, 0, cc_X11_in_12), (177, 0, 11, cc_X11_bad_0), (177, 0, 11, cc_X11_bad_1), (389, 1, 0, cc_X11_isRumour_0), (397, 1, 0, cc_X11_saysBy_0)], cc_X11_says_0)
set_option maxRecDepth 20000 in
theorem hh_X11_says_0 : scH Tm invM cc_X11_says_0 := scCheck_ok (X := xx_X11_says_0) (nodes := []) (fuel := 4000) ⟨lqX11, fa_cons (⟨pcs_X11_135, hh_X11_in_12⟩) (fa_cons (⟨⟨3, _, pcv_X11_177, rfl⟩, hh_X11_bad_0⟩) (fa_cons (⟨⟨3, _, pcv_X11_177, rfl⟩, hh_X11_bad_1⟩) (fa_cons (⟨pcs_X11_389, hh_X11_isRumour_0⟩) (fa_cons (⟨pcs_X11_397, hh_X11_saysBy_0⟩) (fa_nil)))))⟩ dtX11_says (by decide +kernel)
abbrev cc_X11_line_0 : scC := (qX11_line, 2, [((-2147483648), 2147483647), ((-2147483648), 2147483647), ((-2147483648), 2147483647), ((-2147483648), 2147483647)], [.inr (.inr (.inl [0])), .inl (some 0, 0), .inl (some 1, 0), .inl (some 2, 0), .inl (some 3, 0)], [], [(1, ((-1), 16), [], [], [])], [(0, 0, 1), (2, 1, 1)])
set_option maxRecDepth 20000 in
abbrev xx_X11_line_0 : scX := (Tm, invM, lnX11, [(177, 0, 11, cc_X11_bad_0), (177, 0, 11, cc_X11_bad_1), (389, 1, 0, cc_X11_isRumour_0), (397, 1, 0, cc_X11_saysBy_0)], cc_X11_line_0)
set_option maxRecDepth 20000 in
theorem hh_X11_line_0 : scH Tm invM cc_X11_line_0 := scCheck_ok (X := xx_X11_line_0) (nodes := [(35, ([(0, 16), (0, 999), (0, 999), (0, 999), (0, 17), (0, 0)], [some (.inr (.inr (.inl [0]))), some (.inl (some 0, 0)), some (.inl (some 1, 0)), some (.inl (some 2, 0)), some (.inl (some 3, 0)), some (.inl (some 4, 0))], [], [((0, 0), (some 5, 0))]), ([0, 0, 0, 0, (-2)], 34))]) (fuel := 4000) ⟨lqX11, fa_cons (⟨⟨3, _, pcv_X11_177, rfl⟩, hh_X11_bad_0⟩) (fa_cons (⟨⟨3, _, pcv_X11_177, rfl⟩, hh_X11_bad_1⟩) (fa_cons (⟨pcs_X11_389, hh_X11_isRumour_0⟩) (fa_cons (⟨pcs_X11_397, hh_X11_saysBy_0⟩) (fa_nil))))⟩ dtX11_line (by decide +kernel)
abbrev cc_X11_in_14 : scC := (qX11_in, 0, [((-2147483648), 2147483647), (0, 0), ((-2147483648), 2147483647)], [.inl (some 0, 0), .inl (some 1, 0), .inl (some 2, 0)], [], [(1, (0, 0), [], [], []), (1, (1, 1), [], [(0, (0, 2147483647)), (2, (0, 2147483647))], [])], [])
set_option maxRecDepth 20000 in
abbrev xx_X11_in_14 : scX := (Tm, invM, lnX11, [], cc_X11_in_14)
set_option maxRecDepth 20000 in
theorem hh_X11_in_14 : scH Tm invM cc_X11_in_14 := scCheck_ok (X := xx_X11_in_14) (nodes := []) (fuel := 4000) ⟨lqX11, fa_nil⟩ dtX11_in (by decide +kernel)
abbrev cc_X11_areLives_0 : scC := (qX11_areLives, 1, [((-2147483648), 2147483647)], [.inr (.inr (.inl [0])), .inl (some 0, 0)], [], [(1, (0, 0), [], [], []), (1, (1, 1), [], [(0, (0, 2147483647))], [])], [])
set_option maxRecDepth 20000 in
abbrev xx_X11_areLives_0 : scX := (Tm, invM, lnX11, [(135, 1, 0, cc_X11_in_14)], cc_X11_areLives_0)
set_option maxRecDepth 20000 in
theorem hh_X11_areLives_0 : scH Tm invM cc_X11_areLives_0 := scCheck_ok (X := xx_X11_areLives_0) (nodes := []) (fuel := 4000) ⟨lqX11, fa_cons (⟨pcs_X11_135, hh_X11_in_14⟩) (fa_nil)⟩ dtX11_areLives (by decide +kernel)
abbrev cc_X11_rooms_0 : scC := (qX11_rooms, 0, [((-2147483648), 2147483647), ((-2147483648), 2147483647), ((-2147483648), 2147483647)], [.inr (.inr (.inl [0])), .inl (none, 8), .inl (some 0, 0), .inl (some 1, 0), .inl (some 2, 0)], [((4, 0), (none, 8))], [(0, (0, 0), [], [], [])], [(0, 46, 1), (15, 0, 8)])
set_option maxRecDepth 20000 in
abbrev xx_X11_rooms_0 : scX := (Tm, invM, lnX11, [], cc_X11_rooms_0)
set_option maxRecDepth 20000 in
theorem hh_X11_rooms_0 : scH Tm invM cc_X11_rooms_0 := scCheck_ok (X := xx_X11_rooms_0) (nodes := [(29, ([(8, 8), ((-2147483648), 2147483647), ((-2147483648), 2147483647), ((-2147483647), 2147483647), (0, 8), ((-2147483647), 2147483647), (8, 8), (0, 99), (0, 99)], [some (.inr (.inr (.inl [0]))), some (.inl (some 0, 0)), some (.inl (some 1, 0)), some (.inl (some 2, 0)), some (.inl (some 3, 0)), some (.inl (some 4, 0))], [], [((0, 46), (some 5, 0)), ((4, 0), (some 6, 0)), ((15, 0), (some 7, 0)), ((14, 0), (some 8, 0))]), ([0, 0, 0, 0, (-2)], 16))]) (fuel := 4000) ⟨lqX11, fa_nil⟩ dtX11_rooms (by decide +kernel)
abbrev cc_X11_rooms_1 : scC := (qX11_rooms, 1, [((-2147483648), 2147483647), ((-2147483648), 2147483647), ((-2147483648), 2147483647), (7, 8)], [.inr (.inr (.inl [0])), .inl (none, 7), .inl (some 0, 0), .inl (some 1, 0), .inl (some 2, 0)], [((4, 0), (some 3, 0))], [(0, (0, 0), [], [], [])], [(0, 46, 1), (14, 7, 1), (15, 0, 8)])
set_option maxRecDepth 20000 in
abbrev xx_X11_rooms_1 : scX := (Tm, invM, lnX11, [(256, 1, 0, cc_X11_has_0), (403, 0, 11, cc_X11_rooms_0)], cc_X11_rooms_1)
set_option maxRecDepth 20000 in
theorem hh_X11_rooms_1 : scH Tm invM cc_X11_rooms_1 := scCheck_ok (X := xx_X11_rooms_1) (nodes := [(29, ([(7, 7), ((-2147483648), 2147483647), ((-2147483648), 2147483647), ((-2147483647), 2147483647), (0, 8), ((-2147483647), 2147483647), (7, 7), (0, 99), (0, 99)], [some (.inr (.inr (.inl [0]))), some (.inl (some 0, 0)), some (.inl (some 1, 0)), some (.inl (some 2, 0)), some (.inl (some 3, 0)), some (.inl (some 4, 0))], [], [((0, 46), (some 5, 0)), ((4, 0), (some 6, 0)), ((15, 0), (some 7, 0)), ((14, 0), (some 8, 0))]), ([0, 0, 0, 0, (-2)], 16))]) (fuel := 4000) ⟨lqX11, fa_cons (⟨pcs_X11_256, hh_X11_has_0⟩) (fa_cons (⟨⟨4, _, pcv_X11_403, rfl⟩, hh_X11_rooms_0⟩) (fa_nil))⟩ dtX11_rooms (by decide +kernel)
abbrev cc_X11_rooms_2 : scC := (qX11_rooms, 2, [((-2147483648), 2147483647), ((-2147483648), 2147483647), ((-2147483648), 2147483647), (6, 8)], [.inr (.inr (.inl [0])), .inl (none, 6), .inl (some 0, 0), .inl (some 1, 0), .inl (some 2, 0)], [((4, 0), (some 3, 0))], [(0, (0, 0), [], [], [])], [(0, 46, 1), (14, 6, 2), (15, 0, 8)])
set_option maxRecDepth 20000 in
abbrev xx_X11_rooms_2 : scX := (Tm, invM, lnX11, [(256, 1, 0, cc_X11_has_0), (403, 0, 11, cc_X11_rooms_1)], cc_X11_rooms_2)
set_option maxRecDepth 20000 in
theorem hh_X11_rooms_2 : scH Tm invM cc_X11_rooms_2 := scCheck_ok (X := xx_X11_rooms_2) (nodes := [(29, ([(6, 6), ((-2147483648), 2147483647), ((-2147483648), 2147483647), ((-2147483647), 2147483647), (0, 8), ((-2147483647), 2147483647), (6, 6), (0, 99), (0, 99)], [some (.inr (.inr (.inl [0]))), some (.inl (some 0, 0)), some (.inl (some 1, 0)), some (.inl (some 2, 0)), some (.inl (some 3, 0)), some (.inl (some 4, 0))], [], [((0, 46), (some 5, 0)), ((4, 0), (some 6, 0)), ((15, 0), (some 7, 0)), ((14, 0), (some 8, 0))]), ([0, 0, 0, 0, (-2)], 16))]) (fuel := 4000) ⟨lqX11, fa_cons (⟨pcs_X11_256, hh_X11_has_0⟩) (fa_cons (⟨⟨4, _, pcv_X11_403, rfl⟩, hh_X11_rooms_1⟩) (fa_nil))⟩ dtX11_rooms (by decide +kernel)
abbrev cc_X11_rooms_3 : scC := (qX11_rooms, 3, [((-2147483648), 2147483647), ((-2147483648), 2147483647), ((-2147483648), 2147483647), (5, 8)], [.inr (.inr (.inl [0])), .inl (none, 5), .inl (some 0, 0), .inl (some 1, 0), .inl (some 2, 0)], [((4, 0), (some 3, 0))], [(0, (0, 0), [], [], [])], [(0, 46, 1), (14, 5, 3), (15, 0, 8)])
set_option maxRecDepth 20000 in
abbrev xx_X11_rooms_3 : scX := (Tm, invM, lnX11, [(256, 1, 0, cc_X11_has_0), (403, 0, 11, cc_X11_rooms_2)], cc_X11_rooms_3)
set_option maxRecDepth 20000 in
theorem hh_X11_rooms_3 : scH Tm invM cc_X11_rooms_3 := scCheck_ok (X := xx_X11_rooms_3) (nodes := [(29, ([(5, 5), ((-2147483648), 2147483647), ((-2147483648), 2147483647), ((-2147483647), 2147483647), (0, 8), ((-2147483647), 2147483647), (5, 5), (0, 99), (0, 99)], [some (.inr (.inr (.inl [0]))), some (.inl (some 0, 0)), some (.inl (some 1, 0)), some (.inl (some 2, 0)), some (.inl (some 3, 0)), some (.inl (some 4, 0))], [], [((0, 46), (some 5, 0)), ((4, 0), (some 6, 0)), ((15, 0), (some 7, 0)), ((14, 0), (some 8, 0))]), ([0, 0, 0, 0, (-2)], 16))]) (fuel := 4000) ⟨lqX11, fa_cons (⟨pcs_X11_256, hh_X11_has_0⟩) (fa_cons (⟨⟨4, _, pcv_X11_403, rfl⟩, hh_X11_rooms_2⟩) (fa_nil))⟩ dtX11_rooms (by decide +kernel)
abbrev cc_X11_rooms_4 : scC := (qX11_rooms, 4, [((-2147483648), 2147483647), ((-2147483648), 2147483647), ((-2147483648), 2147483647), (4, 8)], [.inr (.inr (.inl [0])), .inl (none, 4), .inl (some 0, 0), .inl (some 1, 0), .inl (some 2, 0)], [((4, 0), (some 3, 0))], [(0, (0, 0), [], [], [])], [(0, 46, 1), (14, 4, 4), (15, 0, 8)])
set_option maxRecDepth 20000 in
abbrev xx_X11_rooms_4 : scX := (Tm, invM, lnX11, [(256, 1, 0, cc_X11_has_0), (403, 0, 11, cc_X11_rooms_3)], cc_X11_rooms_4)
set_option maxRecDepth 20000 in
theorem hh_X11_rooms_4 : scH Tm invM cc_X11_rooms_4 := scCheck_ok (X := xx_X11_rooms_4) (nodes := [(29, ([(4, 4), ((-2147483648), 2147483647), ((-2147483648), 2147483647), ((-2147483647), 2147483647), (0, 8), ((-2147483647), 2147483647), (4, 4), (0, 99), (0, 99)], [some (.inr (.inr (.inl [0]))), some (.inl (some 0, 0)), some (.inl (some 1, 0)), some (.inl (some 2, 0)), some (.inl (some 3, 0)), some (.inl (some 4, 0))], [], [((0, 46), (some 5, 0)), ((4, 0), (some 6, 0)), ((15, 0), (some 7, 0)), ((14, 0), (some 8, 0))]), ([0, 0, 0, 0, (-2)], 16))]) (fuel := 4000) ⟨lqX11, fa_cons (⟨pcs_X11_256, hh_X11_has_0⟩) (fa_cons (⟨⟨4, _, pcv_X11_403, rfl⟩, hh_X11_rooms_3⟩) (fa_nil))⟩ dtX11_rooms (by decide +kernel)
abbrev cc_X11_rooms_5 : scC := (qX11_rooms, 5, [((-2147483648), 2147483647), ((-2147483648), 2147483647), ((-2147483648), 2147483647), (3, 8)], [.inr (.inr (.inl [0])), .inl (none, 3), .inl (some 0, 0), .inl (some 1, 0), .inl (some 2, 0)], [((4, 0), (some 3, 0))], [(0, (0, 0), [], [], [])], [(0, 46, 1), (14, 3, 5), (15, 0, 8)])
set_option maxRecDepth 20000 in
abbrev xx_X11_rooms_5 : scX := (Tm, invM, lnX11, [(256, 1, 0, cc_X11_has_0), (403, 0, 11, cc_X11_rooms_4)], cc_X11_rooms_5)
set_option maxRecDepth 20000 in
theorem hh_X11_rooms_5 : scH Tm invM cc_X11_rooms_5 := scCheck_ok (X := xx_X11_rooms_5) (nodes := [(29, ([(3, 3), ((-2147483648), 2147483647), ((-2147483648), 2147483647), ((-2147483647), 2147483647), (0, 8), ((-2147483647), 2147483647), (3, 3), (0, 99), (0, 99)], [some (.inr (.inr (.inl [0]))), some (.inl (some 0, 0)), some (.inl (some 1, 0)), some (.inl (some 2, 0)), some (.inl (some 3, 0)), some (.inl (some 4, 0))], [], [((0, 46), (some 5, 0)), ((4, 0), (some 6, 0)), ((15, 0), (some 7, 0)), ((14, 0), (some 8, 0))]), ([0, 0, 0, 0, (-2)], 16))]) (fuel := 4000) ⟨lqX11, fa_cons (⟨pcs_X11_256, hh_X11_has_0⟩) (fa_cons (⟨⟨4, _, pcv_X11_403, rfl⟩, hh_X11_rooms_4⟩) (fa_nil))⟩ dtX11_rooms (by decide +kernel)
abbrev cc_X11_rooms_6 : scC := (qX11_rooms, 6, [((-2147483648), 2147483647), ((-2147483648), 2147483647), ((-2147483648), 2147483647), (2, 8)], [.inr (.inr (.inl [0])), .inl (none, 2), .inl (some 0, 0), .inl (some 1, 0), .inl (some 2, 0)], [((4, 0), (some 3, 0))], [(0, (0, 0), [], [], [])], [(0, 46, 1), (14, 2, 6), (15, 0, 8)])
set_option maxRecDepth 20000 in
abbrev xx_X11_rooms_6 : scX := (Tm, invM, lnX11, [(256, 1, 0, cc_X11_has_0), (403, 0, 11, cc_X11_rooms_5)], cc_X11_rooms_6)
set_option maxRecDepth 20000 in
theorem hh_X11_rooms_6 : scH Tm invM cc_X11_rooms_6 := scCheck_ok (X := xx_X11_rooms_6) (nodes := [(29, ([(2, 2), ((-2147483648), 2147483647), ((-2147483648), 2147483647), ((-2147483647), 2147483647), (0, 8), ((-2147483647), 2147483647), (2, 2), (0, 99), (0, 99)], [some (.inr (.inr (.inl [0]))), some (.inl (some 0, 0)), some (.inl (some 1, 0)), some (.inl (some 2, 0)), some (.inl (some 3, 0)), some (.inl (some 4, 0))], [], [((0, 46), (some 5, 0)), ((4, 0), (some 6, 0)), ((15, 0), (some 7, 0)), ((14, 0), (some 8, 0))]), ([0, 0, 0, 0, (-2)], 16))]) (fuel := 4000) ⟨lqX11, fa_cons (⟨pcs_X11_256, hh_X11_has_0⟩) (fa_cons (⟨⟨4, _, pcv_X11_403, rfl⟩, hh_X11_rooms_5⟩) (fa_nil))⟩ dtX11_rooms (by decide +kernel)
abbrev cc_X11_rooms_7 : scC := (qX11_rooms, 7, [((-2147483648), 2147483647), ((-2147483648), 2147483647), ((-2147483648), 2147483647), (1, 8)], [.inr (.inr (.inl [0])), .inl (none, 1), .inl (some 0, 0), .inl (some 1, 0), .inl (some 2, 0)], [((4, 0), (some 3, 0))], [(0, (0, 0), [], [], [])], [(0, 46, 1), (14, 1, 7), (15, 0, 8)])
set_option maxRecDepth 20000 in
abbrev xx_X11_rooms_7 : scX := (Tm, invM, lnX11, [(256, 1, 0, cc_X11_has_0), (403, 0, 11, cc_X11_rooms_6)], cc_X11_rooms_7)
set_option maxRecDepth 20000 in
theorem hh_X11_rooms_7 : scH Tm invM cc_X11_rooms_7 := scCheck_ok (X := xx_X11_rooms_7) (nodes := [(29, ([(1, 1), ((-2147483648), 2147483647), ((-2147483648), 2147483647), ((-2147483647), 2147483647), (0, 8), ((-2147483647), 2147483647), (1, 1), (0, 99), (0, 99)], [some (.inr (.inr (.inl [0]))), some (.inl (some 0, 0)), some (.inl (some 1, 0)), some (.inl (some 2, 0)), some (.inl (some 3, 0)), some (.inl (some 4, 0))], [], [((0, 46), (some 5, 0)), ((4, 0), (some 6, 0)), ((15, 0), (some 7, 0)), ((14, 0), (some 8, 0))]), ([0, 0, 0, 0, (-2)], 16))]) (fuel := 4000) ⟨lqX11, fa_cons (⟨pcs_X11_256, hh_X11_has_0⟩) (fa_cons (⟨⟨4, _, pcv_X11_403, rfl⟩, hh_X11_rooms_6⟩) (fa_nil))⟩ dtX11_rooms (by decide +kernel)
abbrev cc_X11_rooms_8 : scC := (qX11_rooms, 8, [((-2147483648), 2147483647), ((-2147483648), 2147483647), ((-2147483648), 2147483647), (0, 8)], [.inr (.inr (.inl [0])), .inl (none, 0), .inl (some 0, 0), .inl (some 1, 0), .inl (some 2, 0)], [((4, 0), (some 3, 0))], [(0, (0, 0), [], [], [])], [(0, 46, 1), (14, 0, 8), (15, 0, 8)])
set_option maxRecDepth 20000 in
abbrev xx_X11_rooms_8 : scX := (Tm, invM, lnX11, [(256, 1, 0, cc_X11_has_0), (403, 0, 11, cc_X11_rooms_7)], cc_X11_rooms_8)
set_option maxRecDepth 20000 in
theorem hh_X11_rooms_8 : scH Tm invM cc_X11_rooms_8 := scCheck_ok (X := xx_X11_rooms_8) (nodes := [(29, ([(0, 0), ((-2147483648), 2147483647), ((-2147483648), 2147483647), ((-2147483647), 2147483647), (0, 8), ((-2147483647), 2147483647), (0, 0), (0, 99), (0, 99)], [some (.inr (.inr (.inl [0]))), some (.inl (some 0, 0)), some (.inl (some 1, 0)), some (.inl (some 2, 0)), some (.inl (some 3, 0)), some (.inl (some 4, 0))], [], [((0, 46), (some 5, 0)), ((4, 0), (some 6, 0)), ((15, 0), (some 7, 0)), ((14, 0), (some 8, 0))]), ([0, 0, 0, 0, (-2)], 16))]) (fuel := 4000) ⟨lqX11, fa_cons (⟨pcs_X11_256, hh_X11_has_0⟩) (fa_cons (⟨⟨4, _, pcv_X11_403, rfl⟩, hh_X11_rooms_7⟩) (fa_nil))⟩ dtX11_rooms (by decide +kernel)
abbrev cc_X11_laysRoom_0 : scC := (qX11_laysRoom, 9, [((-2147483648), 2147483647), ((-2147483648), 2147483647)], [.inr (.inr (.inl [0])), .inl (some 0, 0), .inl (some 1, 0)], [], [(0, (0, 0), [], [], [])], [(0, 46, 1), (14, 0, 8), (15, 0, 8)])
set_option maxRecDepth 20000 in
abbrev xx_X11_laysRoom_0 : scX := (Tm, invM, lnX11, [(403, 0, 11, cc_X11_rooms_8)], cc_X11_laysRoom_0)
set_option maxRecDepth 20000 in
theorem hh_X11_laysRoom_0 : scH Tm invM cc_X11_laysRoom_0 := scCheck_ok (X := xx_X11_laysRoom_0) (nodes := [(7, ([((-2147483648), 2147483647), ((-2147483648), 2147483647), (0, 8), ((-1), (-1)), (0, 99)], [some (.inr (.inr (.inl [0]))), some (.inl (some 0, 0)), some (.inl (some 1, 0)), some (.inl (some 2, 0))], [], [((0, 46), (some 3, 0)), ((14, 0), (some 4, 0))]), ([0, 0, (-2)], 16))]) (fuel := 4000) ⟨lqX11, fa_cons (⟨⟨4, _, pcv_X11_403, rfl⟩, hh_X11_rooms_8⟩) (fa_nil)⟩ dtX11_laysRoom (by decide +kernel)
abbrev cc_X11_room_0 : scC := (qX11_room, 10, [((-2147483648), 2147483647), ((-2147483648), 2147483647)], [.inr (.inr (.inl [0])), .inl (some 0, 0), .inl (some 1, 0)], [], [(1, ((-2147483648), 2147483647), [], [], [])], [(0, 0, 1), (0, 46, 1), (2, 1, 1), (14, 0, 8), (15, 0, 8)])
set_option maxRecDepth 20000 in
abbrev xx_X11_room_0 : scX := (Tm, invM, lnX11, [(135, 1, 0, cc_X11_in_3), (177, 0, 11, cc_X11_bad_0), (177, 0, 11, cc_X11_bad_1), (407, 0, 11, cc_X11_areLives_0), (410, 0, 11, cc_X11_laysRoom_0)], cc_X11_room_0)
set_option maxRecDepth 20000 in
theorem hh_X11_room_0 : scH Tm invM cc_X11_room_0 := scCheck_ok (X := xx_X11_room_0) (nodes := []) (fuel := 4000) ⟨lqX11, fa_cons (⟨pcs_X11_135, hh_X11_in_3⟩) (fa_cons (⟨⟨3, _, pcv_X11_177, rfl⟩, hh_X11_bad_0⟩) (fa_cons (⟨⟨3, _, pcv_X11_177, rfl⟩, hh_X11_bad_1⟩) (fa_cons (⟨⟨1, _, pcv_X11_407, rfl⟩, hh_X11_areLives_0⟩) (fa_cons (⟨⟨2, _, pcv_X11_410, rfl⟩, hh_X11_laysRoom_0⟩) (fa_nil)))))⟩ dtX11_room (by decide +kernel)
abbrev cc_X11_lines_0 : scC := (qX11_lines, 10, [((-2147483648), 2147483647), ((-2147483648), 2147483647), ((-2147483648), 2147483647)], [.inr (.inr (.inl [0])), .inl (some 0, 0), .inl (some 1, 0), .inl (some 2, 0)], [], [(1, (0, 99), [], [], [])], [(0, 0, 1), (0, 46, 1), (2, 0, 2), (14, 0, 8), (15, 0, 8)])
set_option maxRecDepth 20000 in
abbrev xx_X11_lines_0 : scX := (Tm, invM, lnX11, [(135, 1, 0, cc_X11_in_3), (177, 0, 11, cc_X11_bad_2), (177, 0, 11, cc_X11_bad_5), (177, 0, 11, cc_X11_bad_3), (177, 0, 11, cc_X11_bad_4), (331, 0, 11, cc_X11_isLife_0), (407, 0, 11, cc_X11_areLives_0), (410, 0, 11, cc_X11_laysRoom_0)], cc_X11_lines_0)
set_option maxRecDepth 20000 in
theorem hh_X11_lines_0 : scH Tm invM cc_X11_lines_0 := scCheck_ok (X := xx_X11_lines_0) (nodes := []) (fuel := 4000) ⟨lqX11, fa_cons (⟨pcs_X11_135, hh_X11_in_3⟩) (fa_cons (⟨⟨3, _, pcv_X11_177, rfl⟩, hh_X11_bad_2⟩) (fa_cons (⟨⟨3, _, pcv_X11_177, rfl⟩, hh_X11_bad_5⟩) (fa_cons (⟨⟨3, _, pcv_X11_177, rfl⟩, hh_X11_bad_3⟩) (fa_cons (⟨⟨3, _, pcv_X11_177, rfl⟩, hh_X11_bad_4⟩) (fa_cons (⟨⟨1, _, pcv_X11_331, rfl⟩, hh_X11_isLife_0⟩) (fa_cons (⟨⟨1, _, pcv_X11_407, rfl⟩, hh_X11_areLives_0⟩) (fa_cons (⟨⟨2, _, pcv_X11_410, rfl⟩, hh_X11_laysRoom_0⟩) (fa_nil))))))))⟩ dtX11_lines (by decide +kernel)
abbrev cc_X11_isApart_0 : scC := (qX11_isApart, 1, [((-2147483648), 2147483647), ((-2147483648), 2147483647)], [.inr (.inr (.inl [0])), .inl (some 0, 0), .inl (some 1, 0)], [], [(1, (0, 1), [], [], [])], [])
set_option maxRecDepth 20000 in
abbrev xx_X11_isApart_0 : scX := (Tm, invM, lnX11, [(256, 1, 0, cc_X11_has_0), (334, 0, 11, cc_X11_factsAt_0)], cc_X11_isApart_0)
set_option maxRecDepth 20000 in
theorem hh_X11_isApart_0 : scH Tm invM cc_X11_isApart_0 := scCheck_ok (X := xx_X11_isApart_0) (nodes := [(2, ([((-2147483648), 2147483647), ((-2147483648), 2147483647), (0, 8), (0, 8), (0, 200)], [some (.inr (.inr (.inl [0]))), some (.inl (some 0, 0)), some (.inl (some 1, 0)), some (.inl (some 2, 0)), none], [], [((4, 0), (some 3, 0)), ((7, 10), (some 4, 0))]), ([0, 0, (-18)], 160)), (15, ([((-2147483648), 2147483647), ((-2147483648), 2147483647), (0, 7), (0, 7), (1, 8), (0, 200)], [some (.inr (.inr (.inl [0]))), some (.inl (some 0, 0)), some (.inl (some 1, 0)), some (.inl (some 2, 0)), some (.inl (some 3, 0))], [], [((4, 0), (some 4, 0)), ((7, 10), (some 5, 0))]), ([0, 0, (-18), (-2)], 158))]) (fuel := 4000) ⟨lqX11, fa_cons (⟨pcs_X11_256, hh_X11_has_0⟩) (fa_cons (⟨⟨2, _, pcv_X11_334, rfl⟩, hh_X11_factsAt_0⟩) (fa_nil))⟩ dtX11_isApart (by decide +kernel)
abbrev cc_X11_ones_0 : scC := (qX11_ones, 0, [(0, 1)], [.inl (some 0, 0)], [], [(1, ((-2147483648), 2147483647), [], [], [])], [])
set_option maxRecDepth 20000 in
abbrev xx_X11_ones_0 : scX := (Tm, invM, lnX11, [], cc_X11_ones_0)
set_option maxRecDepth 20000 in
theorem hh_X11_ones_0 : scH Tm invM cc_X11_ones_0 := scCheck_ok (X := xx_X11_ones_0) (nodes := [(4, ([(0, 1), ((-2147483648), 2147483647), (0, 8)], [some (.inl (some 0, 0)), some (.inl (some 1, 0)), some (.inl (some 2, 0))], [], []), ([0, 0, (-2)], 16))]) (fuel := 4000) ⟨lqX11, fa_nil⟩ dtX11_ones (by decide +kernel)
abbrev cc_X11_ones_1 : scC := (qX11_ones, 0, [(0, 2)], [.inl (some 0, 0)], [], [(1, ((-2147483648), 2147483647), [], [], [])], [])
set_option maxRecDepth 20000 in
abbrev xx_X11_ones_1 : scX := (Tm, invM, lnX11, [], cc_X11_ones_1)
set_option maxRecDepth 20000 in
theorem hh_X11_ones_1 : scH Tm invM cc_X11_ones_1 := scCheck_ok (X := xx_X11_ones_1) (nodes := [(4, ([(0, 2), ((-2147483648), 2147483647), (0, 8)], [some (.inl (some 0, 0)), some (.inl (some 1, 0)), some (.inl (some 2, 0))], [], []), ([0, 0, (-2)], 16))]) (fuel := 4000) ⟨lqX11, fa_nil⟩ dtX11_ones (by decide +kernel)
abbrev cc_X11_ones_2 : scC := (qX11_ones, 0, [(0, 7)], [.inl (some 0, 0)], [], [(1, ((-2147483648), 2147483647), [], [], [])], [])
set_option maxRecDepth 20000 in
abbrev xx_X11_ones_2 : scX := (Tm, invM, lnX11, [], cc_X11_ones_2)
set_option maxRecDepth 20000 in
theorem hh_X11_ones_2 : scH Tm invM cc_X11_ones_2 := scCheck_ok (X := xx_X11_ones_2) (nodes := [(4, ([(0, 7), ((-2147483648), 2147483647), (0, 8)], [some (.inl (some 0, 0)), some (.inl (some 1, 0)), some (.inl (some 2, 0))], [], []), ([0, 0, (-2)], 16))]) (fuel := 4000) ⟨lqX11, fa_nil⟩ dtX11_ones (by decide +kernel)
abbrev cc_X11_ones_3 : scC := (qX11_ones, 0, [(0, 8)], [.inl (some 0, 0)], [], [(1, ((-2147483648), 2147483647), [], [], [])], [])
set_option maxRecDepth 20000 in
abbrev xx_X11_ones_3 : scX := (Tm, invM, lnX11, [], cc_X11_ones_3)
set_option maxRecDepth 20000 in
theorem hh_X11_ones_3 : scH Tm invM cc_X11_ones_3 := scCheck_ok (X := xx_X11_ones_3) (nodes := [(4, ([(0, 8), ((-2147483648), 2147483647), (0, 8)], [some (.inl (some 0, 0)), some (.inl (some 1, 0)), some (.inl (some 2, 0))], [], []), ([0, 0, (-2)], 16))]) (fuel := 4000) ⟨lqX11, fa_nil⟩ dtX11_ones (by decide +kernel)
abbrev cc_X11_ones_4 : scC := (qX11_ones, 0, [(0, 16)], [.inl (some 0, 0)], [], [(1, ((-2147483648), 2147483647), [], [], [])], [])
set_option maxRecDepth 20000 in
abbrev xx_X11_ones_4 : scX := (Tm, invM, lnX11, [], cc_X11_ones_4)
set_option maxRecDepth 20000 in
theorem hh_X11_ones_4 : scH Tm invM cc_X11_ones_4 := scCheck_ok (X := xx_X11_ones_4) (nodes := [(4, ([(0, 16), ((-2147483648), 2147483647), (0, 8)], [some (.inl (some 0, 0)), some (.inl (some 1, 0)), some (.inl (some 2, 0))], [], []), ([0, 0, (-2)], 16))]) (fuel := 4000) ⟨lqX11, fa_nil⟩ dtX11_ones (by decide +kernel)
abbrev cc_X11_ones_5 : scC := (qX11_ones, 0, [(0, 63)], [.inl (some 0, 0)], [], [(1, ((-2147483648), 2147483647), [], [], [])], [])
set_option maxRecDepth 20000 in
abbrev xx_X11_ones_5 : scX := (Tm, invM, lnX11, [], cc_X11_ones_5)
set_option maxRecDepth 20000 in
theorem hh_X11_ones_5 : scH Tm invM cc_X11_ones_5 := scCheck_ok (X := xx_X11_ones_5) (nodes := [(4, ([(0, 63), ((-2147483648), 2147483647), (0, 8)], [some (.inl (some 0, 0)), some (.inl (some 1, 0)), some (.inl (some 2, 0))], [], []), ([0, 0, (-2)], 16))]) (fuel := 4000) ⟨lqX11, fa_nil⟩ dtX11_ones (by decide +kernel)
abbrev cc_X11_ones_6 : scC := (qX11_ones, 0, [(0, 2147483647)], [.inl (some 0, 0)], [], [(1, ((-2147483648), 2147483647), [], [], [])], [])
set_option maxRecDepth 20000 in
abbrev xx_X11_ones_6 : scX := (Tm, invM, lnX11, [], cc_X11_ones_6)
set_option maxRecDepth 20000 in
theorem hh_X11_ones_6 : scH Tm invM cc_X11_ones_6 := scCheck_ok (X := xx_X11_ones_6) (nodes := [(4, ([(0, 2147483647), ((-2147483648), 2147483647), (0, 8)], [some (.inl (some 0, 0)), some (.inl (some 1, 0)), some (.inl (some 2, 0))], [], []), ([0, 0, (-2)], 16))]) (fuel := 4000) ⟨lqX11, fa_nil⟩ dtX11_ones (by decide +kernel)
abbrev cc_X11_apart_0 : scC := (qX11_apart, 2, [((-2147483648), 2147483647), ((-2147483648), 2147483647)], [.inr (.inr (.inl [0])), .inl (some 0, 0), .inl (some 1, 0)], [], [(1, ((-2147483648), 2147483647), [], [], [])], [(0, 0, 1), (2, 1, 1)])
set_option maxRecDepth 20000 in
abbrev xx_X11_apart_0 : scX := (Tm, invM, lnX11, [(135, 1, 0, cc_X11_in_5), (177, 0, 11, cc_X11_bad_0), (177, 0, 11, cc_X11_bad_1), (407, 0, 11, cc_X11_areLives_0), (413, 0, 11, cc_X11_isApart_0), (416, 1, 0, cc_X11_ones_0), (416, 1, 0, cc_X11_ones_1), (416, 1, 0, cc_X11_ones_2), (416, 1, 0, cc_X11_ones_3), (416, 1, 0, cc_X11_ones_4), (416, 1, 0, cc_X11_ones_5), (416, 1, 0, cc_X11_ones_6)], cc_X11_apart_0)
set_option maxRecDepth 20000 in
theorem hh_X11_apart_0 : scH Tm invM cc_X11_apart_0 := scCheck_ok (X := xx_X11_apart_0) (nodes := [(43, ([(0, 2147483647), (0, 1), ((-1), 2147483647), (0, 64), (0, 0)], [some (.inr (.inr (.inl [0]))), some (.inl (some 0, 0)), some (.inl (some 1, 0)), some (.inl (some 2, 0)), some (.inl (some 3, 0))], [], [((0, 0), (some 4, 0))]), ([0, 0, 0, (-2)], 128))]) (fuel := 4000) ⟨lqX11, fa_cons (⟨pcs_X11_135, hh_X11_in_5⟩) (fa_cons (⟨⟨3, _, pcv_X11_177, rfl⟩, hh_X11_bad_0⟩) (fa_cons (⟨⟨3, _, pcv_X11_177, rfl⟩, hh_X11_bad_1⟩) (fa_cons (⟨⟨1, _, pcv_X11_407, rfl⟩, hh_X11_areLives_0⟩) (fa_cons (⟨⟨2, _, pcv_X11_413, rfl⟩, hh_X11_isApart_0⟩) (fa_cons (⟨pcs_X11_416, hh_X11_ones_0⟩) (fa_cons (⟨pcs_X11_416, hh_X11_ones_1⟩) (fa_cons (⟨pcs_X11_416, hh_X11_ones_2⟩) (fa_cons (⟨pcs_X11_416, hh_X11_ones_3⟩) (fa_cons (⟨pcs_X11_416, hh_X11_ones_4⟩) (fa_cons (⟨pcs_X11_416, hh_X11_ones_5⟩) (fa_cons (⟨pcs_X11_416, hh_X11_ones_6⟩) (fa_nil))))))))))))⟩ dtX11_apart (by decide +kernel)
abbrev cc_X11_twins_0 : scC := (qX11_twins, 1, [], [.inr (.inr (.inl [0]))], [], [(1, ((-1), 77), [], [], [])], [(0, 0, 1)])
set_option maxRecDepth 20000 in
abbrev xx_X11_twins_0 : scX := (Tm, invM, lnX11, [(334, 0, 11, cc_X11_factsAt_0)], cc_X11_twins_0)
set_option maxRecDepth 20000 in
theorem hh_X11_twins_0 : scH Tm invM cc_X11_twins_0 := scCheck_ok (X := xx_X11_twins_0) (nodes := [(7, ([(0, 8), (0, 0), (0, 8), (0, 200)], [some (.inr (.inr (.inl [0]))), some (.inl (some 0, 0)), none], [], [((0, 0), (some 1, 0)), ((4, 0), (some 2, 0)), ((7, 10), (some 3, 0))]), ([(-18)], 160)), (21, ([(0, 7), (1, 8), (1, 8), (0, 0), (0, 200)], [some (.inr (.inr (.inl [0]))), some (.inl (some 0, 0)), some (.inl (some 1, 0))], [], [((4, 0), (some 2, 0)), ((0, 0), (some 3, 0)), ((7, 10), (some 4, 0))]), ([(-18), (-2)], 160))]) (fuel := 4000) ⟨lqX11, fa_cons (⟨⟨2, _, pcv_X11_334, rfl⟩, hh_X11_factsAt_0⟩) (fa_nil)⟩ dtX11_twins (by decide +kernel)
abbrev cc_X11_writtenOf_0 : scC := (qX11_writtenOf, 1, [((-2147483648), 2147483647)], [.inr (.inr (.inl [0])), .inl (some 0, 0)], [], [(2, ((-9223372036854775808), 9223372036854775807), [], [], [])], [])
set_option maxRecDepth 20000 in
abbrev xx_X11_writtenOf_0 : scX := (Tm, invM, lnX11, [(334, 0, 11, cc_X11_factsAt_0)], cc_X11_writtenOf_0)
set_option maxRecDepth 20000 in
theorem hh_X11_writtenOf_0 : scH Tm invM cc_X11_writtenOf_0 := scCheck_ok (X := xx_X11_writtenOf_0) (nodes := [(5, ([((-2147483648), 2147483647), (0, 61), (0, 6), (0, 1), (0, 5)], [some (.inr (.inr (.inl [0]))), some (.inl (some 0, 0)), some (.inr (.inl ((-9223372036854775808), 9223372036854775807))), none, some (.inl (some 1, 0)), none, none], [], [((0, 31), (some 2, 0)), ((411, 1), (some 3, 0)), ((411, 0), (some 4, 0))]), ([0, (-16)], 990)), (18, ([((-2147483648), 2147483647), (0, 60), (0, 1), (0, 6), (0, 1), (0, 5), (0, 6)], [some (.inr (.inr (.inl [0]))), some (.inl (some 0, 0)), some (.inr (.inl ((-9223372036854775808), 9223372036854775807))), none, some (.inl (some 1, 0)), some (.inl (some 2, 0)), some (.inl (some 3, 0))], [], [((411, 1), (some 4, 0)), ((411, 0), (some 5, 0)), ((0, 31), (some 6, 0))]), ([0, (-16), 0, (-2)], 988))]) (fuel := 4000) ⟨lqX11, fa_cons (⟨⟨2, _, pcv_X11_334, rfl⟩, hh_X11_factsAt_0⟩) (fa_nil)⟩ dtX11_writtenOf (by decide +kernel)
abbrev cc_X11_written_0 : scC := (qX11_written, 2, [((-2147483648), 2147483647)], [.inr (.inr (.inl [0])), .inl (some 0, 0)], [], [(2, ((-9223372036854775808), 9223372036854775807), [], [], [])], [(0, 0, 1), (2, 0, 1)])
set_option maxRecDepth 20000 in
abbrev xx_X11_written_0 : scX := (Tm, invM, lnX11, [(177, 0, 11, cc_X11_bad_2), (177, 0, 11, cc_X11_bad_5), (331, 0, 11, cc_X11_isLife_0), (419, 0, 11, cc_X11_writtenOf_0)], cc_X11_written_0)
set_option maxRecDepth 20000 in
theorem hh_X11_written_0 : scH Tm invM cc_X11_written_0 := scCheck_ok (X := xx_X11_written_0) (nodes := []) (fuel := 4000) ⟨lqX11, fa_cons (⟨⟨3, _, pcv_X11_177, rfl⟩, hh_X11_bad_2⟩) (fa_cons (⟨⟨3, _, pcv_X11_177, rfl⟩, hh_X11_bad_5⟩) (fa_cons (⟨⟨1, _, pcv_X11_331, rfl⟩, hh_X11_isLife_0⟩) (fa_cons (⟨⟨1, _, pcv_X11_419, rfl⟩, hh_X11_writtenOf_0⟩) (fa_nil))))⟩ dtX11_written (by decide +kernel)
abbrev cc_X11_whose_0 : scC := (qX11_whose, 2, [], [.inr (.inr (.inl [0]))], [], [(1, ((-2147483648), 2147483647), [], [], [])], [(0, 0, 1)])
set_option maxRecDepth 20000 in
abbrev xx_X11_whose_0 : scX := (Tm, invM, lnX11, [(419, 0, 11, cc_X11_writtenOf_0)], cc_X11_whose_0)
set_option maxRecDepth 20000 in
theorem hh_X11_whose_0 : scH Tm invM cc_X11_whose_0 := scCheck_ok (X := xx_X11_whose_0) (nodes := [(9, ([((-2147483648), 2147483647), (0, 8), (0, 0), (0, 8)], [some (.inr (.inr (.inl [0]))), some (.inl (some 0, 0)), some (.inl (some 1, 0))], [], [((0, 0), (some 2, 0)), ((4, 0), (some 3, 0))]), ([0, (-2)], 16))]) (fuel := 4000) ⟨lqX11, fa_cons (⟨⟨1, _, pcv_X11_419, rfl⟩, hh_X11_writtenOf_0⟩) (fa_nil)⟩ dtX11_whose (by decide +kernel)
abbrev cc_X11_in_15 : scC := (qX11_in, 0, [((-2147483648), 2147483647), (0, 0), (60, 60)], [.inl (some 0, 0), .inl (some 1, 0), .inl (some 2, 0)], [], [(1, (0, 0), [], [], []), (1, (1, 1), [], [(0, (0, 60))], [])], [])
set_option maxRecDepth 20000 in
abbrev xx_X11_in_15 : scX := (Tm, invM, lnX11, [], cc_X11_in_15)
set_option maxRecDepth 20000 in
theorem hh_X11_in_15 : scH Tm invM cc_X11_in_15 := scCheck_ok (X := xx_X11_in_15) (nodes := []) (fuel := 4000) ⟨lqX11, fa_nil⟩ dtX11_in (by decide +kernel)
abbrev cc_X11_riskOf_1 : scC := (qX11_riskOf, 8, [], [.inr (.inr (.inl [0])), .inr (.inr (.inl [8]))], [], [(2, ((-9223372036854775808), 9223372036854775807), [], [], [])], [(5, 0, 160), (6, 0, 5)])
set_option maxRecDepth 20000 in
abbrev xx_X11_riskOf_1 : scX := (Tm, invM, lnX11, [(293, 0, 11, cc_X11_costOf_0)], cc_X11_riskOf_1)
set_option maxRecDepth 20000 in
theorem hh_X11_riskOf_1 : scH Tm invM cc_X11_riskOf_1 := scCheck_ok (X := xx_X11_riskOf_1) (nodes := [(5, ([(0, 8), (0, 64), (0, 8)], [some (.inr (.inr (.inl [0]))), some (.inr (.inr (.inl [8]))), some (.inr (.inl ((-9223372036854775808), 9223372036854775807))), none, some (.inl (some 0, 0))], [], [((35, 1), (some 1, 0)), ((4, 0), (some 2, 0))]), ([(-2)], 16))]) (fuel := 4000) ⟨lqX11, fa_cons (⟨⟨2, _, pcv_X11_293, rfl⟩, hh_X11_costOf_0⟩) (fa_nil)⟩ dtX11_riskOf (by decide +kernel)
abbrev cc_X11_riskIn_0 : scC := (qX11_riskIn, 9, [((-2147483648), 2147483647)], [.inr (.inr (.inl [0])), .inl (some 0, 0)], [], [(2, ((-9223372036854775808), 9223372036854775807), [], [], [])], [(5, 0, 160), (6, 0, 5), (8, 0, 14)])
set_option maxRecDepth 20000 in
abbrev xx_X11_riskIn_0 : scX := (Tm, invM, lnX11, [(306, 0, 11, cc_X11_weekEnds_0), (323, 1, 0, cc_X11_copies_0), (349, 0, 11, cc_X11_riskOf_1)], cc_X11_riskIn_0)
set_option maxRecDepth 20000 in
theorem hh_X11_riskIn_0 : scH Tm invM cc_X11_riskIn_0 := scCheck_ok (X := xx_X11_riskIn_0) (nodes := [(13, ([((-2147483648), 2147483647), (0, 2147483647)], [some (.inr (.inr (.inl [0]))), some (.inl (some 0, 0)), some (.inl (some 1, 0))], [], []), ([0, (-2)], 4294967294))]) (fuel := 4000) ⟨lqX11, fa_cons (⟨⟨1, _, pcv_X11_306, rfl⟩, hh_X11_weekEnds_0⟩) (fa_cons (⟨pcs_X11_323, hh_X11_copies_0⟩) (fa_cons (⟨⟨1, _, pcv_X11_349, rfl⟩, hh_X11_riskOf_1⟩) (fa_nil)))⟩ dtX11_riskIn (by decide +kernel)
abbrev cc_X11_ahead_0 : scC := (qX11_ahead, 10, [((-2147483648), 2147483647), ((-2147483648), 2147483647)], [.inr (.inr (.inl [0])), .inl (some 0, 0), .inl (some 1, 0)], [], [(2, ((-9223372036854775808), 9223372036854775807), [], [], [])], [(0, 0, 1), (2, 1, 1), (5, 0, 160), (6, 0, 5), (8, 0, 14)])
set_option maxRecDepth 20000 in
abbrev xx_X11_ahead_0 : scX := (Tm, invM, lnX11, [(135, 1, 0, cc_X11_in_15), (177, 0, 11, cc_X11_bad_0), (177, 0, 11, cc_X11_bad_1), (340, 0, 11, cc_X11_noPart_0), (345, 1, 0, cc_hand_partOf), (423, 0, 11, cc_X11_riskIn_0)], cc_X11_ahead_0)
set_option maxRecDepth 20000 in
theorem hh_X11_ahead_0 : scH Tm invM cc_X11_ahead_0 := scCheck_ok (X := xx_X11_ahead_0) (nodes := []) (fuel := 4000) ⟨lqX11, fa_cons (⟨pcs_X11_135, hh_X11_in_15⟩) (fa_cons (⟨⟨3, _, pcv_X11_177, rfl⟩, hh_X11_bad_0⟩) (fa_cons (⟨⟨3, _, pcv_X11_177, rfl⟩, hh_X11_bad_1⟩) (fa_cons (⟨⟨2, _, pcv_X11_340, rfl⟩, hh_X11_noPart_0⟩) (fa_cons (⟨pcs_X11_345, hh_hand_partOf⟩) (fa_cons (⟨⟨1, _, pcv_X11_423, rfl⟩, hh_X11_riskIn_0⟩) (fa_nil))))))⟩ dtX11_ahead (by decide +kernel)
abbrev cc_X11_worst_0 : scC := (qX11_worst, 10, [], [.inr (.inr (.inl [0]))], [], [(1, (0, 2147483647), [], [], [])], [(0, 0, 1), (5, 0, 160), (6, 0, 5), (8, 0, 14)])
set_option maxRecDepth 20000 in
abbrev xx_X11_worst_0 : scX := (Tm, invM, lnX11, [(423, 0, 11, cc_X11_riskIn_0)], cc_X11_worst_0)
set_option maxRecDepth 20000 in
theorem hh_X11_worst_0 : scH Tm invM cc_X11_worst_0 := scCheck_ok (X := xx_X11_worst_0) (nodes := [(9, ([(0, 2147483647), (1, 61), (0, 0)], [some (.inr (.inr (.inl [0]))), some (.inl (some 0, 0)), some (.inl (some 1, 0))], [], [((0, 0), (some 2, 0))]), ([0, (-2)], 122))]) (fuel := 4000) ⟨lqX11, fa_cons (⟨⟨1, _, pcv_X11_423, rfl⟩, hh_X11_riskIn_0⟩) (fa_nil)⟩ dtX11_worst (by decide +kernel)
abbrev cc_X11_lives_0 : scC := (qX11_lives, 2, [((-2147483648), 2147483647), ((-2147483648), 2147483647), ((-2147483648), 2147483647)], [.inr (.inr (.inl [0])), .inl (some 0, 0), .inl (some 1, 0), .inl (some 2, 0)], [], [(2, ((-9223372036854775808), 9223372036854775807), [], [], [])], [(0, 0, 1), (2, 0, 2)])
set_option maxRecDepth 20000 in
abbrev xx_X11_lives_0 : scX := (Tm, invM, lnX11, [(135, 1, 0, cc_X11_in_0), (177, 0, 11, cc_X11_bad_2), (177, 0, 11, cc_X11_bad_5), (177, 0, 11, cc_X11_bad_3), (177, 0, 11, cc_X11_bad_4), (256, 1, 0, cc_X11_has_0), (331, 0, 11, cc_X11_isLife_0), (340, 0, 11, cc_X11_noPart_1), (345, 1, 0, cc_hand_partOf), (365, 1, 0, cc_hand_power), (365, 1, 0, cc_X11_power_1)], cc_X11_lives_0)
set_option maxRecDepth 20000 in
theorem hh_X11_lives_0 : scH Tm invM cc_X11_lives_0 := scCheck_ok (X := xx_X11_lives_0) (nodes := []) (fuel := 4000) ⟨lqX11, fa_cons (⟨pcs_X11_135, hh_X11_in_0⟩) (fa_cons (⟨⟨3, _, pcv_X11_177, rfl⟩, hh_X11_bad_2⟩) (fa_cons (⟨⟨3, _, pcv_X11_177, rfl⟩, hh_X11_bad_5⟩) (fa_cons (⟨⟨3, _, pcv_X11_177, rfl⟩, hh_X11_bad_3⟩) (fa_cons (⟨⟨3, _, pcv_X11_177, rfl⟩, hh_X11_bad_4⟩) (fa_cons (⟨pcs_X11_256, hh_X11_has_0⟩) (fa_cons (⟨⟨1, _, pcv_X11_331, rfl⟩, hh_X11_isLife_0⟩) (fa_cons (⟨⟨2, _, pcv_X11_340, rfl⟩, hh_X11_noPart_1⟩) (fa_cons (⟨pcs_X11_345, hh_hand_partOf⟩) (fa_cons (⟨pcs_X11_365, hh_hand_power⟩) (fa_cons (⟨pcs_X11_365, hh_X11_power_1⟩) (fa_nil)))))))))))⟩ dtX11_lives (by decide +kernel)
abbrev cc_X11_oldest_0 : scC := (qX11_oldest, 1, [], [.inr (.inr (.inl [0]))], [], [(1, ((-1), 7), [], [], [])], [(0, 0, 1)])
set_option maxRecDepth 20000 in
abbrev xx_X11_oldest_0 : scX := (Tm, invM, lnX11, [(283, 1, 0, cc_X11_hasPiece_1)], cc_X11_oldest_0)
set_option maxRecDepth 20000 in
theorem hh_X11_oldest_0 : scH Tm invM cc_X11_oldest_0 := scCheck_ok (X := xx_X11_oldest_0) (nodes := [(9, ([((-1), 7), (0, 8), (0, 0), (0, 8), ((-1000), 200)], [some (.inr (.inr (.inl [0]))), some (.inl (some 0, 0)), some (.inl (some 1, 0))], [], [((0, 0), (some 2, 0)), ((4, 0), (some 3, 0)), ((7, 1), (some 4, 0))]), ([0, (-2)], 16))]) (fuel := 4000) ⟨lqX11, fa_cons (⟨pcs_X11_283, hh_X11_hasPiece_1⟩) (fa_nil)⟩ dtX11_oldest (by decide +kernel)
abbrev cc_X11_yearsOf_3 : scC := (qX11_yearsOf, 0, [(0, 7), (0, 599)], [.inr (.inr (.inl [0])), .inl (some 0, 0), .inl (some 1, 0)], [], [(1, (0, 709), [], [], [])], [])
set_option maxRecDepth 20000 in
abbrev xx_X11_yearsOf_3 : scX := (Tm, invM, lnX11, [], cc_X11_yearsOf_3)
set_option maxRecDepth 20000 in
theorem hh_X11_yearsOf_3 : scH Tm invM cc_X11_yearsOf_3 := scCheck_ok (X := xx_X11_yearsOf_3) (nodes := []) (fuel := 4000) ⟨lqX11, fa_nil⟩ dtX11_yearsOf (by decide +kernel)
end
-- P 12pc
section
abbrev cc_X11_wrongIn_8 : scC := (qX11_wrongIn, 5, [(0, 7), ((-1000), 200), (0, 599)], [.inr (.inr (.inl [0])), .inr (.inr (.inl [7])), .inl (some 0, 0), .inl (some 1, 0), .inl (some 2, 0)], [], [(1, (0, 64), [], [], [])], [(5, 0, 160), (6, 0, 5)])
set_option maxRecDepth 20000 in
abbrev xx_X11_wrongIn_8 : scX := (Tm, invM, lnX11, [(263, 0, 11, cc_X11_yearsOf_3), (266, 0, 11, cc_X11_isByDead_1), (270, 0, 11, cc_X11_changesOf_0), (273, 0, 11, cc_X11_wrongBy_0)], cc_X11_wrongIn_8)
set_option maxRecDepth 20000 in
theorem hh_X11_wrongIn_8 : scH Tm invM cc_X11_wrongIn_8 := scCheck_ok (X := xx_X11_wrongIn_8) (nodes := []) (fuel := 4000) ⟨lqX11, fa_cons (⟨⟨2, _, pcv_X11_263, rfl⟩, hh_X11_yearsOf_3⟩) (fa_cons (⟨⟨2, _, pcv_X11_266, rfl⟩, hh_X11_isByDead_1⟩) (fa_cons (⟨⟨3, _, pcv_X11_270, rfl⟩, hh_X11_changesOf_0⟩) (fa_cons (⟨⟨5, _, pcv_X11_273, rfl⟩, hh_X11_wrongBy_0⟩) (fa_nil))))⟩ dtX11_wrongIn (by decide +kernel)
abbrev cc_X11_due_0 : scC := (qX11_due, 6, [((-2147483648), 2147483647), ((-2147483648), 2147483647)], [.inr (.inr (.inl [0])), .inl (some 0, 0), .inl (some 1, 0)], [], [(1, ((-1), 60), [], [], [])], [(0, 0, 1), (2, 0, 2), (5, 0, 160), (6, 0, 5)])
set_option maxRecDepth 20000 in
abbrev xx_X11_due_0 : scX := (Tm, invM, lnX11, [(135, 1, 0, cc_X11_in_7), (177, 0, 11, cc_X11_bad_2), (177, 0, 11, cc_X11_bad_5), (177, 0, 11, cc_X11_bad_3), (177, 0, 11, cc_X11_bad_4), (276, 0, 11, cc_X11_wrongIn_1), (276, 0, 11, cc_X11_wrongIn_6), (276, 0, 11, cc_X11_wrongIn_8), (283, 1, 0, cc_X11_hasPiece_1), (331, 0, 11, cc_X11_isLife_0)], cc_X11_due_0)
set_option maxRecDepth 20000 in
theorem hh_X11_due_0 : scH Tm invM cc_X11_due_0 := scCheck_ok (X := xx_X11_due_0) (nodes := [(55, ([(0, 7), (0, 65), (0, 61), (0, 0), (0, 200)], [some (.inr (.inr (.inl [0]))), some (.inl (some 0, 0)), some (.inl (some 1, 0)), some (.inl (some 2, 0))], [], [((0, 0), (some 3, 0)), ((7, 10), (some 4, 0))]), ([0, 0, (-2)], 122))]) (fuel := 4000) ⟨lqX11, fa_cons (⟨pcs_X11_135, hh_X11_in_7⟩) (fa_cons (⟨⟨3, _, pcv_X11_177, rfl⟩, hh_X11_bad_2⟩) (fa_cons (⟨⟨3, _, pcv_X11_177, rfl⟩, hh_X11_bad_5⟩) (fa_cons (⟨⟨3, _, pcv_X11_177, rfl⟩, hh_X11_bad_3⟩) (fa_cons (⟨⟨3, _, pcv_X11_177, rfl⟩, hh_X11_bad_4⟩) (fa_cons (⟨⟨4, _, pcv_X11_276, rfl⟩, hh_X11_wrongIn_1⟩) (fa_cons (⟨⟨4, _, pcv_X11_276, rfl⟩, hh_X11_wrongIn_6⟩) (fa_cons (⟨⟨4, _, pcv_X11_276, rfl⟩, hh_X11_wrongIn_8⟩) (fa_cons (⟨pcs_X11_283, hh_X11_hasPiece_1⟩) (fa_cons (⟨⟨1, _, pcv_X11_331, rfl⟩, hh_X11_isLife_0⟩) (fa_nil))))))))))⟩ dtX11_due (by decide +kernel)
abbrev cc_X11_news_0 : scC := (qX11_news, 2, [((-2147483648), 2147483647)], [.inr (.inr (.inl [0])), .inl (some 0, 0)], [], [(1, ((-1), 60), [], [], [])], [(0, 0, 1), (2, 0, 1)])
set_option maxRecDepth 20000 in
abbrev xx_X11_news_0 : scX := (Tm, invM, lnX11, [(177, 0, 11, cc_X11_bad_2), (177, 0, 11, cc_X11_bad_5), (331, 0, 11, cc_X11_isLife_0)], cc_X11_news_0)
set_option maxRecDepth 20000 in
theorem hh_X11_news_0 : scH Tm invM cc_X11_news_0 := scCheck_ok (X := xx_X11_news_0) (nodes := [(33, ([(0, 7), ((-1), 60), (0, 24), (0, 0), (0, 200), (0, 60), (0, 7), (0, 24)], [some (.inr (.inr (.inl [0]))), some (.inl (some 0, 0)), some (.inl (some 1, 0)), some (.inl (some 2, 0))], [], [((0, 0), (some 3, 0)), ((7, 10), (some 4, 0)), ((67, 2), (some 5, 0)), ((67, 0), (some 6, 0)), ((4, 1), (some 7, 0))]), ([0, 0, (-2)], 48))]) (fuel := 4000) ⟨lqX11, fa_cons (⟨⟨3, _, pcv_X11_177, rfl⟩, hh_X11_bad_2⟩) (fa_cons (⟨⟨3, _, pcv_X11_177, rfl⟩, hh_X11_bad_5⟩) (fa_cons (⟨⟨1, _, pcv_X11_331, rfl⟩, hh_X11_isLife_0⟩) (fa_nil)))⟩ dtX11_news (by decide +kernel)
abbrev cc_X11_expects_0 : scC := (qX11_expects, 7, [((-2147483648), 2147483647), ((-2147483648), 2147483647), ((-2147483648), 2147483647)], [.inr (.inr (.inl [0])), .inl (some 0, 0), .inl (some 1, 0), .inl (some 2, 0)], [], [(2, ((-9223372036854775808), 9223372036854775807), [], [], [])], [(0, 0, 1), (2, 0, 2), (5, 0, 160), (6, 0, 5)])
set_option maxRecDepth 20000 in
abbrev xx_X11_expects_0 : scX := (Tm, invM, lnX11, [(135, 1, 0, cc_X11_in_2), (177, 0, 11, cc_X11_bad_2), (177, 0, 11, cc_X11_bad_5), (177, 0, 11, cc_X11_bad_3), (177, 0, 11, cc_X11_bad_4), (256, 1, 0, cc_X11_has_0), (280, 0, 11, cc_X11_costIn_1), (280, 0, 11, cc_X11_costIn_6), (331, 0, 11, cc_X11_isLife_0), (340, 0, 11, cc_X11_noPart_1), (345, 1, 0, cc_hand_partOf), (365, 1, 0, cc_hand_power), (365, 1, 0, cc_X11_power_1)], cc_X11_expects_0)
set_option maxRecDepth 20000 in
theorem hh_X11_expects_0 : scH Tm invM cc_X11_expects_0 := scCheck_ok (X := xx_X11_expects_0) (nodes := [(78, ([(0, 7), (0, 7), (0, 1), (0, 64), (0, 7), (0, 0), (0, 200), ((-2147483648), 2147483647)], [some (.inr (.inr (.inl [0]))), some (.inl (some 0, 0)), some (.inl (some 1, 0)), some (.inl (some 2, 0)), some (.inr (.inl ((-9223372036854775808), 9223372036854775807))), none, some (.inl (some 3, 0)), some (.inl (some 4, 0))], [], [((0, 0), (some 5, 0)), ((7, 10), (some 6, 0)), ((7, 0), (some 7, 0))]), ([0, 0, 0, 0, (-2)], 14))]) (fuel := 4000) ⟨lqX11, fa_cons (⟨pcs_X11_135, hh_X11_in_2⟩) (fa_cons (⟨⟨3, _, pcv_X11_177, rfl⟩, hh_X11_bad_2⟩) (fa_cons (⟨⟨3, _, pcv_X11_177, rfl⟩, hh_X11_bad_5⟩) (fa_cons (⟨⟨3, _, pcv_X11_177, rfl⟩, hh_X11_bad_3⟩) (fa_cons (⟨⟨3, _, pcv_X11_177, rfl⟩, hh_X11_bad_4⟩) (fa_cons (⟨pcs_X11_256, hh_X11_has_0⟩) (fa_cons (⟨⟨4, _, pcv_X11_280, rfl⟩, hh_X11_costIn_1⟩) (fa_cons (⟨⟨4, _, pcv_X11_280, rfl⟩, hh_X11_costIn_6⟩) (fa_cons (⟨⟨1, _, pcv_X11_331, rfl⟩, hh_X11_isLife_0⟩) (fa_cons (⟨⟨2, _, pcv_X11_340, rfl⟩, hh_X11_noPart_1⟩) (fa_cons (⟨pcs_X11_345, hh_hand_partOf⟩) (fa_cons (⟨pcs_X11_365, hh_hand_power⟩) (fa_cons (⟨pcs_X11_365, hh_X11_power_1⟩) (fa_nil)))))))))))))⟩ dtX11_expects (by decide +kernel)
abbrev cc_X11_in_16 : scC := (qX11_in, 0, [((-2147483648), 2147483647), (1, 1), (60, 60)], [.inl (some 0, 0), .inl (some 1, 0), .inl (some 2, 0)], [], [(1, (0, 0), [], [], []), (1, (1, 1), [], [(0, (1, 60))], [])], [])
set_option maxRecDepth 20000 in
abbrev xx_X11_in_16 : scX := (Tm, invM, lnX11, [], cc_X11_in_16)
set_option maxRecDepth 20000 in
theorem hh_X11_in_16 : scH Tm invM cc_X11_in_16 := scCheck_ok (X := xx_X11_in_16) (nodes := []) (fuel := 4000) ⟨lqX11, fa_nil⟩ dtX11_in (by decide +kernel)
abbrev cc_X11_in_17 : scC := (qX11_in, 0, [((-2147483648), 2147483647), (0, 0), (4, 4)], [.inl (some 0, 0), .inl (some 1, 0), .inl (some 2, 0)], [], [(1, (0, 0), [], [], []), (1, (1, 1), [], [(0, (0, 4))], [])], [])
set_option maxRecDepth 20000 in
abbrev xx_X11_in_17 : scX := (Tm, invM, lnX11, [], cc_X11_in_17)
set_option maxRecDepth 20000 in
theorem hh_X11_in_17 : scH Tm invM cc_X11_in_17 := scCheck_ok (X := xx_X11_in_17) (nodes := []) (fuel := 4000) ⟨lqX11, fa_nil⟩ dtX11_in (by decide +kernel)
abbrev cc_X11_aliveIn_1 : scC := (qX11_aliveIn, 1, [], [.inr (.inr (.inl [0])), .inr (.inr (.inl [8]))], [], [(1, ((-2147483648), 2147483647), [], [], [])], [])
set_option maxRecDepth 20000 in
abbrev xx_X11_aliveIn_1 : scX := (Tm, invM, lnX11, [(256, 1, 0, cc_X11_has_0)], cc_X11_aliveIn_1)
set_option maxRecDepth 20000 in
theorem hh_X11_aliveIn_1 : scH Tm invM cc_X11_aliveIn_1 := scCheck_ok (X := xx_X11_aliveIn_1) (nodes := [(4, ([((-2147483648), 2147483647), (0, 8), ((-2147483648), 2147483647), (0, 8)], [some (.inr (.inr (.inl [0]))), some (.inr (.inr (.inl [8]))), some (.inl (some 0, 0)), some (.inl (some 1, 0))], [], [((8, 0), (some 2, 0)), ((4, 0), (some 3, 0))]), ([0, (-2)], 16))]) (fuel := 4000) ⟨lqX11, fa_cons (⟨pcs_X11_256, hh_X11_has_0⟩) (fa_nil)⟩ dtX11_aliveIn (by decide +kernel)
abbrev cc_X11_years_0 : scC := (qX11_years, 13, [((-2147483648), 2147483647), ((-2147483648), 2147483647), ((-2147483648), 2147483647)], [.inr (.inr (.inl [0])), .inl (some 0, 0), .inl (some 1, 0), .inl (some 2, 0)], [], [(1, ((-2147483648), 2147483647), [], [], [])], [(0, 0, 1), (0, 47, 2), (2, 1, 1), (5, 0, 160), (6, 0, 5), (8, 0, 14)])
set_option maxRecDepth 20000 in
abbrev xx_X11_years_0 : scX := (Tm, invM, lnX11, [(135, 1, 0, cc_X11_in_16), (135, 1, 0, cc_X11_in_17), (177, 0, 11, cc_X11_bad_0), (177, 0, 11, cc_X11_bad_1), (327, 0, 11, cc_X11_aliveIn_1), (433, 0, 11, cc_hand_yearsBy)], cc_X11_years_0)
set_option maxRecDepth 20000 in
theorem hh_X11_years_0 : scH Tm invM cc_X11_years_0 := scCheck_ok (X := xx_X11_years_0) (nodes := []) (fuel := 4000) ⟨lqX11, fa_cons (⟨pcs_X11_135, hh_X11_in_16⟩) (fa_cons (⟨pcs_X11_135, hh_X11_in_17⟩) (fa_cons (⟨⟨3, _, pcv_X11_177, rfl⟩, hh_X11_bad_0⟩) (fa_cons (⟨⟨3, _, pcv_X11_177, rfl⟩, hh_X11_bad_1⟩) (fa_cons (⟨⟨1, _, pcv_X11_327, rfl⟩, hh_X11_aliveIn_1⟩) (fa_cons (⟨⟨2, _, pcv_X11_433, rfl⟩, hh_hand_yearsBy⟩) (fa_nil))))))⟩ dtX11_years (by decide +kernel)
abbrev cc_X11_in_18 : scC := (qX11_in, 0, [((-2147483648), 2147483647), (1, 1), (20, 20)], [.inl (some 0, 0), .inl (some 1, 0), .inl (some 2, 0)], [], [(1, (0, 0), [], [], []), (1, (1, 1), [], [(0, (1, 20))], [])], [])
set_option maxRecDepth 20000 in
abbrev xx_X11_in_18 : scX := (Tm, invM, lnX11, [], cc_X11_in_18)
set_option maxRecDepth 20000 in
theorem hh_X11_in_18 : scH Tm invM cc_X11_in_18 := scCheck_ok (X := xx_X11_in_18) (nodes := []) (fuel := 4000) ⟨lqX11, fa_nil⟩ dtX11_in (by decide +kernel)
abbrev cc_X11_in_19 : scC := (qX11_in, 0, [((-2147483648), 2147483647), (0, 0), (3, 3)], [.inl (some 0, 0), .inl (some 1, 0), .inl (some 2, 0)], [], [(1, (0, 0), [], [], []), (1, (1, 1), [], [(0, (0, 3))], [])], [])
set_option maxRecDepth 20000 in
abbrev xx_X11_in_19 : scX := (Tm, invM, lnX11, [], cc_X11_in_19)
set_option maxRecDepth 20000 in
theorem hh_X11_in_19 : scH Tm invM cc_X11_in_19 := scCheck_ok (X := xx_X11_in_19) (nodes := []) (fuel := 4000) ⟨lqX11, fa_nil⟩ dtX11_in (by decide +kernel)
abbrev cc_X11_span_0 : scC := (qX11_span, 13, [((-2147483648), 2147483647), ((-2147483648), 2147483647), ((-2147483648), 2147483647), ((-2147483648), 2147483647), ((-2147483648), 2147483647)], [.inr (.inr (.inl [0])), .inl (some 0, 0), .inl (some 1, 0), .inl (some 2, 0), .inl (some 3, 0), .inl (some 4, 0)], [], [(1, ((-2147483648), 2147483647), [], [], [])], [(0, 0, 1), (0, 47, 2), (2, 1, 1), (5, 0, 160), (6, 0, 5), (8, 0, 14)])
set_option maxRecDepth 20000 in
abbrev xx_X11_span_0 : scX := (Tm, invM, lnX11, [(135, 1, 0, cc_X11_in_18), (135, 1, 0, cc_X11_in_16), (135, 1, 0, cc_X11_in_19), (177, 0, 11, cc_X11_bad_0), (177, 0, 11, cc_X11_bad_1), (256, 1, 0, cc_X11_has_0), (331, 0, 11, cc_X11_isLife_0), (433, 0, 11, cc_hand_yearsBy)], cc_X11_span_0)
set_option maxRecDepth 20000 in
theorem hh_X11_span_0 : scH Tm invM cc_X11_span_0 := scCheck_ok (X := xx_X11_span_0) (nodes := [(75, ([((-2147483648), 2147483647), (1, 20), (1, 60), (0, 3), (0, 7), ((-2147483648), 2147483647), (0, 2147483647), ((-2147483648), 2147483647), ((-2147483648), 2147483647), (0, 20), (0, 0), ((-2147483648), 2147483647), ((-2147483648), 2147483647), ((-2147483648), 2147483647)], [some (.inr (.inr (.inl [0]))), some (.inl (some 0, 0)), some (.inl (some 1, 0)), some (.inl (some 2, 0)), some (.inl (some 3, 0)), some (.inl (some 4, 0)), some (.inl (some 5, 0)), some (.inl (some 6, 0)), some (.inl (some 7, 0)), some (.inl (some 8, 0)), some (.inl (some 9, 0)), none], [], [((0, 0), (some 10, 0)), ((8, 0), (some 11, 0)), ((7, 11), (some 12, 0)), ((8, 11), (some 13, 0))]), ([0, 0, 0, 0, 0, 0, 0, 0, 0, (-2)], 40))]) (fuel := 4000) ⟨lqX11, fa_cons (⟨pcs_X11_135, hh_X11_in_18⟩) (fa_cons (⟨pcs_X11_135, hh_X11_in_16⟩) (fa_cons (⟨pcs_X11_135, hh_X11_in_19⟩) (fa_cons (⟨⟨3, _, pcv_X11_177, rfl⟩, hh_X11_bad_0⟩) (fa_cons (⟨⟨3, _, pcv_X11_177, rfl⟩, hh_X11_bad_1⟩) (fa_cons (⟨pcs_X11_256, hh_X11_has_0⟩) (fa_cons (⟨⟨1, _, pcv_X11_331, rfl⟩, hh_X11_isLife_0⟩) (fa_cons (⟨⟨2, _, pcv_X11_433, rfl⟩, hh_hand_yearsBy⟩) (fa_nil))))))))⟩ dtX11_span (by decide +kernel)
abbrev cc_X11_image_0 : scC := (qX11_image, 2, [], [.inr (.inr (.inl [0]))], [], [(1, ((-1), 3), [], [], [])], [(0, 0, 1), (0, 32, 1), (0, 34, 2), (7, 0, 14), (503, 0, 14), (504, 0, 14), (505, 0, 14), (506, 0, 14), (507, 0, 14), (508, 0, 14), (509, 0, 14), (510, 0, 14), (511, 0, 14), (512, 0, 14), (513, 0, 14), (514, 0, 14), (515, 0, 14), (516, 0, 14), (517, 0, 14), (518, 0, 14), (519, 0, 239), (520, 0, 239), (521, 0, 239)])
set_option maxRecDepth 20000 in
abbrev xx_X11_image_0 : scX := (Tm, invM, lnX11, [(443, 0, 11, cc_hand_putsAll0)], cc_X11_image_0)
set_option maxRecDepth 20000 in
theorem hh_X11_image_0 : scH Tm invM cc_X11_image_0 := scCheck_ok (X := xx_X11_image_0) (nodes := []) (fuel := 4000) ⟨lqX11, fa_cons (⟨⟨2, _, pcv_X11_443, rfl⟩, hh_hand_putsAll0⟩) (fa_nil)⟩ dtX11_image (by decide +kernel)
abbrev cc_X11_restore_0 : scC := (qX11_restore, 2, [], [.inr (.inr (.inl [0]))], [], [(1, ((-1), 2), [], [], [])], [(0, 0, 1), (0, 32, 4), (7, 0, 14), (503, 0, 14), (504, 0, 14), (505, 0, 14), (506, 0, 14), (507, 0, 14), (508, 0, 14), (509, 0, 14), (510, 0, 14), (511, 0, 14), (512, 0, 14), (513, 0, 14), (514, 0, 14), (515, 0, 14), (516, 0, 14), (517, 0, 14), (518, 0, 14)])
set_option maxRecDepth 20000 in
abbrev xx_X11_restore_0 : scX := (Tm, invM, lnX11, [(443, 0, 11, cc_hand_putsAll1)], cc_X11_restore_0)
set_option maxRecDepth 20000 in
theorem hh_X11_restore_0 : scH Tm invM cc_X11_restore_0 := scCheck_ok (X := xx_X11_restore_0) (nodes := []) (fuel := 4000) ⟨lqX11, fa_cons (⟨⟨2, _, pcv_X11_443, rfl⟩, hh_hand_putsAll1⟩) (fa_nil)⟩ dtX11_restore (by decide +kernel)
abbrev cc_X11_status_0 : scC := (qX11_status, 1, [((-2147483648), 2147483647)], [.inr (.inr (.inl [0])), .inl (some 0, 0)], [], [(1, ((-2147483648), 2147483647), [], [], [])], [(0, 0, 1)])
set_option maxRecDepth 20000 in
abbrev xx_X11_status_0 : scX := (Tm, invM, lnX11, [(135, 1, 0, cc_X11_in_5)], cc_X11_status_0)
set_option maxRecDepth 20000 in
theorem hh_X11_status_0 : scH Tm invM cc_X11_status_0 := scCheck_ok (X := xx_X11_status_0) (nodes := []) (fuel := 4000) ⟨lqX11, fa_cons (⟨pcs_X11_135, hh_X11_in_5⟩) (fa_nil)⟩ dtX11_status (by decide +kernel)
abbrev cc_X11_count_0 : scC := (qX11_count, 0, [((-2147483648), 2147483647)], [.inr (.inr (.inl [0])), .inl (some 0, 0)], [], [(1, ((-1), 600), [], [], [])], [(0, 0, 1)])
set_option maxRecDepth 20000 in
abbrev xx_X11_count_0 : scX := (Tm, invM, lnX11, [], cc_X11_count_0)
set_option maxRecDepth 20000 in
theorem hh_X11_count_0 : scH Tm invM cc_X11_count_0 := scCheck_ok (X := xx_X11_count_0) (nodes := []) (fuel := 4000) ⟨lqX11, fa_nil⟩ dtX11_count (by decide +kernel)
end
-- P 12q
section
-- THE REFERENCE: tops by hand
def tI (r : fmR) : Prop := ∃ n : Int32, r = .inl (some (.int n))
def tJ (r : fmR) : Prop := ∃ n : Int64, r = .inl (some (.long n))
theorem scInv.p00 {M : fmM} {x : Int32} (hI : scInv Tm invM M) (hx : x = 0 ∨ x = 1 ∨ x = 2) : scInv Tm invM (fmI M 0 0 x) := hI.put (k := 0) (j := 0) (x := x) (by rcases hx with rfl | rfl | rfl <;> decide) rfl
theorem scInv.p2 {M : fmM} {x : Int32} {j : Nat} (hI : scInv Tm invM M) : scInv Tm invM (fmI M 2 j x) := scInvM_top 2 rfl (fun j => rfl) hI (fun q j hq => by rw [fmI_k _ _ hq])
theorem told8 {M : fmM} (hI : scInv Tm invM M) : ∃ l : Nat, (M.1 4 0).toInt = l ∧ l ≤ 8 := ⟨(M.1 4 0).toInt.toNat, by
  have h1 : 0 ≤ (M.1 4 0).toInt := (hI.1 4 0 (by decide)).1
  omega, by
  have h2 : (M.1 4 0).toInt ≤ 8 := (hI.1 4 0 (by decide)).2
  omega⟩
def pop8 (w : Nat) : Nat := ((List.range 8).map (fun k => if w.testBit k then 1 else 0)).sum
theorem pop8_le : ∀ w, w < 256 → pop8 w ≤ 8 := by decide +kernel
theorem pop8_add : ∀ w, w < 256 → ∀ k, k < 8 → w.testBit k = false → pop8 (w ||| 1 <<< k) = pop8 w + 1 ∧ w ||| 1 <<< k < 256 := by decide +kernel
theorem or8 : ∀ w, w < 256 → ∀ k, k < 8 → (nI w ||| (1 : Int32) <<< (nI k &&& 31)) = nI (w ||| 1 <<< k) := by decide +kernel
theorem has8 : ∀ w, w < 256 → ∀ k, k < 8 → ((nI w >>> (nI k &&& 31) &&& 1) = (1 : Int32) ↔ w.testBit k = true) := by decide +kernel
theorem one8 : ∀ k, k < 8 → ((1 : Int32) <<< (nI k &&& 31)) = nI (1 <<< k) ∧ 1 <<< k < 256 := by decide +kernel
theorem by_7 {M : fmM} {k : Nat} (hI : scInv Tm invM M) (hk : k < 8) : -1 ≤ (M.1 (35 + k) 5).toInt ∧ (M.1 (35 + k) 5).toInt ≤ 7 := by
  have h := hI.1 (35 + k) 5 (by rw [(rw_life.2.2.2 k hk).2.2.2.2]; decide)
  rcases (show k = 0 ∨ k = 1 ∨ k = 2 ∨ k = 3 ∨ k = 4 ∨ k = 5 ∨ k = 6 ∨ k = 7 by omega) with rfl | rfl | rfl | rfl | rfl | rfl | rfl | rfl <;> exact h
theorem by_k {M : fmM} {k : Nat} {x : Int32} (hx : x = M.1 (35 + k) 5) (hI : scInv Tm invM M) (hk : k < 8) (h : ¬ x = -1) : ∃ v : Nat, v < 8 ∧ x = nI v ∧ x.toInt = v := by
  have h7 := by_7 hI hk
  rw [← hx] at h7
  have h1 : ¬ x.toInt = -1 := fun e => h (i32_ext (e.trans (by decide)))
  exact ⟨x.toInt.toNat, by omega, nI_is (by omega) (by omega), by omega⟩
set_option maxRecDepth 20000 in
theorem c_isLife {M : fmM} {Q : fmR → fmM → Prop} {i : Int32} {l : Nat} (h4 : (M.1 4 0).toInt = l) (hl : l ≤ 8) (ht : ∀ k : Nat, i.toInt = k → k < l → Q (.inl (some (.int 1))) M) (hf : ¬ (0 ≤ i.toInt ∧ i.toInt < l) → Q (.inl (some (.int 0))) M) : pvGood Tm 1 qX11_isLife [.ref 0, .int i] M Q := by
  refine pvGood_of (Nat.le_of_ble_eq_true rfl) ?_
  show pvEv Tm 1 qX11_isLife 0 [some (.ref 0), some (.int i)] [] M Q
  refine pv_iloadn (pc := 0) (n := 1) 1 rfl rfl (fm_dec dtX11_isLife 0 rfl) ?_
  refine pv_iconst (pc := 1) (v := 0) (by decide) (fm_dec dtX11_isLife 1 rfl) ?_
  refine pv_aloadn (pc := 2) (n := 0) 0 rfl rfl (fm_dec dtX11_isLife 2 rfl) ?_
  refine pv_getR (k := 0) (j := 12) (ci := 11) (pc := 3) 4 rfl (by decide) pfl_X11_23 (by decide) rfl (by decide) (fm_dec dtX11_isLife 3 rfl) ?_
  refine pv_iconst (pc := 6) (v := 0) (by decide) (fm_dec dtX11_isLife 4 rfl) ?_
  refine pv_iald (k := 4) (n := 6) (pc := 7) (by decide) rfl rfl (fm_inl (by decide)) (fm_dec dtX11_isLife 5 rfl) ?_
  refine pv_iconst (pc := 8) (v := 1) (by decide) (fm_dec dtX11_isLife 6 rfl) ?_
  refine pv_isub (pc := 9) (fm_dec dtX11_isLife 7 rfl) ?_
  refine pv_iS3 (d' := 0) (pc := 10) pcs_X11_135 (Nat.le_of_ble_eq_true rfl) (by decide) (fm_dec dtX11_isLife 8 rfl) ?_
  refine c_in (fun h1 h2 => ?_) (fun h1 => ?_)
  · refine pv_then1 ?_
    exact pv_zreturn (pc := 13) rfl (by first | exact Or.inr rfl | exact Or.inl rfl) (fm_dec dtX11_isLife 9 rfl) (ht i.toInt.toNat (by have h9 : (0 : Int32).toInt = 0 := (by decide); omega) (by have h8 : i.toInt ≤ (M.1 4 0 - 1).toInt := h2; rw [lh_hi h4 hl] at h8; have h9 : (0 : Int32).toInt = 0 := (by decide); omega))
  · refine pv_then1 ?_
    exact pv_zreturn (pc := 13) rfl (by first | exact Or.inr rfl | exact Or.inl rfl) (fm_dec dtX11_isLife 9 rfl) (hf (fun h9 => h1 ⟨by have h8 : (0 : Int32).toInt = 0 := (by decide); omega, by show i.toInt ≤ (M.1 4 0 - 1).toInt; rw [lh_hi h4 hl]; omega⟩))
set_option maxRecDepth 20000 in
theorem c_noPart1 {M : fmM} {Q : fmR → fmM → Prop} {p : Int32} (h0 : M.1 0 0 = 0) (ht : 0 ≤ p.toInt → p.toInt ≤ 1 → Q (.inl (some (.int 0))) M) (hf : ¬ (0 ≤ p.toInt ∧ p.toInt ≤ 1) → Q (.inl (some (.int 1))) (fmI (fmI M 0 0 1) 2 1 (M.1 2 1 + 1))) : pvGood Tm 1 qX11_noPart [.ref 0, .int p, .int 1] M Q := by
  refine pvGood_of (Nat.le_of_ble_eq_true rfl) ?_
  show pvEv Tm 1 qX11_noPart 0 [some (.ref 0), some (.int p), some (.int 1)] [] M Q
  refine pv_aloadn (pc := 0) (n := 0) 0 rfl rfl (fm_dec dtX11_noPart 0 rfl) ?_
  refine pv_iloadn (pc := 1) (n := 1) 1 rfl rfl (fm_dec dtX11_noPart 1 rfl) ?_
  refine pv_iconst (pc := 2) (v := 0) (by decide) (fm_dec dtX11_noPart 2 rfl) ?_
  refine pv_iconst (pc := 3) (v := 1) (by decide) (fm_dec dtX11_noPart 3 rfl) ?_
  refine pv_iS3 (d' := 0) (pc := 4) pcs_X11_135 (Nat.le_of_ble_eq_true rfl) (by decide) (fm_dec dtX11_noPart 4 rfl) ?_
  refine c_in (fun h4a h4b => ?_) (fun h4 => ?_)
  · refine pv_then1 ?_
    refine pv_if_ne (pc := 7) 14 (by decide) (fm_dec dtX11_noPart 5 rfl) (fun _ => ?_) (fun hc7 => by exfalso; revert hc7; decide)
    refine pv_iconst (pc := 14) (v := 0) (by decide) (fm_dec dtX11_noPart 8 rfl) ?_
    refine pv_iloadn (pc := 15) (n := 2) 2 rfl rfl (fm_dec dtX11_noPart 9 rfl) ?_
    refine pv_iconst (pc := 16) (v := 1) (by decide) (fm_dec dtX11_noPart 10 rfl) ?_
    refine pv_invV3 (k := 0) (d' := 0) (pc := 17) pcv_X11_177 (by decide) rfl (Nat.le_of_ble_eq_true rfl) (by decide) (fm_dec dtX11_noPart 11 rfl) ?_
    refine c_badF1 h0 ?_
    refine pv_then1 ?_
    exact pv_zreturn (pc := 20) rfl (by first | exact Or.inr rfl | exact Or.inl rfl) (fm_dec dtX11_noPart 12 rfl) (ht h4a h4b)
  · refine pv_then1 ?_
    refine pv_if_ne (pc := 7) 14 (by decide) (fm_dec dtX11_noPart 5 rfl) (fun hc7 => by exfalso; revert hc7; decide) (fun _ => ?_)
    refine pv_iconst (pc := 10) (v := 1) (by decide) (fm_dec dtX11_noPart 6 rfl) ?_
    refine pv_goto (pc := 11) 15 (by decide) (fm_dec dtX11_noPart 7 rfl) ?_
    refine pv_iloadn (pc := 15) (n := 2) 2 rfl rfl (fm_dec dtX11_noPart 9 rfl) ?_
    refine pv_iconst (pc := 16) (v := 1) (by decide) (fm_dec dtX11_noPart 10 rfl) ?_
    refine pv_invV3 (k := 0) (d' := 0) (pc := 17) pcv_X11_177 (by decide) rfl (Nat.le_of_ble_eq_true rfl) (by decide) (fm_dec dtX11_noPart 11 rfl) ?_
    refine c_badT1 h0 (by decide) ?_
    refine pv_then1 ?_
    exact pv_zreturn (pc := 20) rfl (by first | exact Or.inr rfl | exact Or.inl rfl) (fm_dec dtX11_noPart 12 rfl) (hf h4)
set_option maxRecDepth 20000 in
theorem c_noPart2 {M : fmM} {Q : fmR → fmM → Prop} {p : Int32} (h0 : M.1 0 0 = 0) (ht : 0 ≤ p.toInt → p.toInt ≤ 1 → Q (.inl (some (.int 0))) M) (hf : ¬ (0 ≤ p.toInt ∧ p.toInt ≤ 1) → Q (.inl (some (.int 1))) (fmI (fmI M 0 0 2) 2 1 (M.1 2 1 + 1))) : pvGood Tm 1 qX11_noPart [.ref 0, .int p, .int 2] M Q := by
  refine pvGood_of (Nat.le_of_ble_eq_true rfl) ?_
  show pvEv Tm 1 qX11_noPart 0 [some (.ref 0), some (.int p), some (.int 2)] [] M Q
  refine pv_aloadn (pc := 0) (n := 0) 0 rfl rfl (fm_dec dtX11_noPart 0 rfl) ?_
  refine pv_iloadn (pc := 1) (n := 1) 1 rfl rfl (fm_dec dtX11_noPart 1 rfl) ?_
  refine pv_iconst (pc := 2) (v := 0) (by decide) (fm_dec dtX11_noPart 2 rfl) ?_
  refine pv_iconst (pc := 3) (v := 1) (by decide) (fm_dec dtX11_noPart 3 rfl) ?_
  refine pv_iS3 (d' := 0) (pc := 4) pcs_X11_135 (Nat.le_of_ble_eq_true rfl) (by decide) (fm_dec dtX11_noPart 4 rfl) ?_
  refine c_in (fun h4a h4b => ?_) (fun h4 => ?_)
  · refine pv_then1 ?_
    refine pv_if_ne (pc := 7) 14 (by decide) (fm_dec dtX11_noPart 5 rfl) (fun _ => ?_) (fun hc7 => by exfalso; revert hc7; decide)
    refine pv_iconst (pc := 14) (v := 0) (by decide) (fm_dec dtX11_noPart 8 rfl) ?_
    refine pv_iloadn (pc := 15) (n := 2) 2 rfl rfl (fm_dec dtX11_noPart 9 rfl) ?_
    refine pv_iconst (pc := 16) (v := 1) (by decide) (fm_dec dtX11_noPart 10 rfl) ?_
    refine pv_invV3 (k := 0) (d' := 0) (pc := 17) pcv_X11_177 (by decide) rfl (Nat.le_of_ble_eq_true rfl) (by decide) (fm_dec dtX11_noPart 11 rfl) ?_
    refine c_badF1 h0 ?_
    refine pv_then1 ?_
    exact pv_zreturn (pc := 20) rfl (by first | exact Or.inr rfl | exact Or.inl rfl) (fm_dec dtX11_noPart 12 rfl) (ht h4a h4b)
  · refine pv_then1 ?_
    refine pv_if_ne (pc := 7) 14 (by decide) (fm_dec dtX11_noPart 5 rfl) (fun hc7 => by exfalso; revert hc7; decide) (fun _ => ?_)
    refine pv_iconst (pc := 10) (v := 1) (by decide) (fm_dec dtX11_noPart 6 rfl) ?_
    refine pv_goto (pc := 11) 15 (by decide) (fm_dec dtX11_noPart 7 rfl) ?_
    refine pv_iloadn (pc := 15) (n := 2) 2 rfl rfl (fm_dec dtX11_noPart 9 rfl) ?_
    refine pv_iconst (pc := 16) (v := 1) (by decide) (fm_dec dtX11_noPart 10 rfl) ?_
    refine pv_invV3 (k := 0) (d' := 0) (pc := 17) pcv_X11_177 (by decide) rfl (Nat.le_of_ble_eq_true rfl) (by decide) (fm_dec dtX11_noPart 11 rfl) ?_
    refine c_badT1 h0 (by decide) ?_
    refine pv_then1 ?_
    exact pv_zreturn (pc := 20) rfl (by first | exact Or.inr rfl | exact Or.inl rfl) (fm_dec dtX11_noPart 12 rfl) (hf h4)
set_option maxRecDepth 20000 in
theorem c_hasPiece7 {M : fmM} {Q : fmR → fmM → Prop} {i : Int32} {k : Nat} (hi : i.toInt = k) (hk : k < 8) (ht : ¬ M.1 7 (1 + k) = -1000 → Q (.inl (some (.int 1))) M) (hf : M.1 7 (1 + k) = -1000 → Q (.inl (some (.int 0))) M) : pvGood Tm 0 qX11_hasPiece [.ref 7, .int i] M Q := by
  refine pvGood_of (Nat.le_of_ble_eq_true rfl) ?_
  show pvEv Tm 0 qX11_hasPiece 0 [some (.ref 7), some (.int i)] [] M Q
  refine pv_aloadn (pc := 0) (n := 0) 0 rfl rfl (fm_dec dtX11_hasPiece 0 rfl) ?_
  refine pv_iconst (pc := 1) (v := 1) (by decide) (fm_dec dtX11_hasPiece 1 rfl) ?_
  refine pv_iloadn (pc := 2) (n := 1) 1 rfl rfl (fm_dec dtX11_hasPiece 2 rfl) ?_
  refine pv_iadd (pc := 3) (fm_dec dtX11_hasPiece 3 rfl) ?_
  refine pv_iald (k := 7) (n := 14) (pc := 4) (by decide) rfl rfl (ix_in (ix_1 hi (by omega)) (by omega)) (fm_dec dtX11_hasPiece 4 rfl) ?_
  refine pv_sipush (pc := 5) (v := (-1000)) (by decide) (fm_dec dtX11_hasPiece 5 rfl) ?_
  refine pv_icmp_eq (pc := 8) 15 (by decide) (fm_dec dtX11_hasPiece 6 rfl) (fun hc8 => ?_) (fun hc8 => ?_)
  · refine pv_iconst (pc := 15) (v := 0) (by decide) (fm_dec dtX11_hasPiece 9 rfl) ?_
    exact pv_zreturn (pc := 16) rfl (by first | exact Or.inr rfl | exact Or.inl rfl) (fm_dec dtX11_hasPiece 10 rfl) (by first | exact ht (by have h9 := i32_cl (ix_1 hi (by omega)); simp only [h9] at *; assumption) | exact hf (by have h9 := i32_cl (ix_1 hi (by omega)); simp only [h9] at *; assumption))
  · refine pv_iconst (pc := 11) (v := 1) (by decide) (fm_dec dtX11_hasPiece 7 rfl) ?_
    refine pv_goto (pc := 12) 16 (by decide) (fm_dec dtX11_hasPiece 8 rfl) ?_
    exact pv_zreturn (pc := 16) rfl (by first | exact Or.inr rfl | exact Or.inl rfl) (fm_dec dtX11_hasPiece 10 rfl) (by first | exact ht (by have h9 := i32_cl (ix_1 hi (by omega)); simp only [h9] at *; assumption) | exact hf (by have h9 := i32_cl (ix_1 hi (by omega)); simp only [h9] at *; assumption))
theorem s_renew {M : fmM} {Q : fmR → fmM → Prop} {i : Int32} {k : Nat} (hi : i.toInt = k) (hk : k < 8) (hI : scInv Tm invM M) (hq : ∀ n : Int32, 1 ≤ n.toInt → n.toInt ≤ 9 → Q (.inl (some (.int n))) M) : pvGood Tm 1 qX11_renewHours [.ref 0, .int i] M Q := (hh_X11_renewHours_0 M [(k : Int)] [.ref 0, .int i] (sc_sg hi ⟨by omega, by omega⟩) ⟨⟨0, by simp, rfl⟩, ⟨i, rfl, ⟨(k : Int), rfl, hi.trans (Int.add_zero _).symm⟩⟩, trivial⟩ (fun f hf => by cases hf) hI).imp (fun r M' h => by
  obtain ⟨⟨n, rfl, h3, h4⟩, h1, h2⟩ := sc_o1 h
  rw [scFr_nil h2]
  exact hq n h3 h4)
theorem hr_19 {M : fmM} {k : Nat} (hI : scInv Tm invM M) (hk : k < 8) (hl : (k : Int) < (M.1 4 0).toInt) : 1 ≤ (M.1 (35 + k) 3).toInt ∧ (M.1 (35 + k) 3).toInt ≤ 9 := by
  refine ⟨(hI.2 rfl).2 k hk hl, ?_⟩
  have h := (hI.1 (35 + k) 3 (by rw [(rw_life.2.2.2 k hk).2.2.2.2]; decide)).2
  rcases (show k = 0 ∨ k = 1 ∨ k = 2 ∨ k = 3 ∨ k = 4 ∨ k = 5 ∨ k = 6 ∨ k = 7 by omega) with rfl | rfl | rfl | rfl | rfl | rfl | rfl | rfl <;> exact h
set_option maxRecDepth 20000 in
theorem s_hours7 {M : fmM} {Q : fmR → fmM → Prop} {i : Int32} {k : Nat} (hi : i.toInt = k) (hk : k < 8) (hl : (k : Int) < (M.1 4 0).toInt) (hI : scInv Tm invM M) (hq : ∀ n : Int32, 1 ≤ n.toInt → n.toInt ≤ 9 → Q (.inl (some (.int n))) M) : pvGood Tm 2 qX11_hoursFor [.ref 0, .ref 7, .int i] M Q := by
  refine pvGood_of (Nat.le_of_ble_eq_true rfl) ?_
  show pvEv Tm 2 qX11_hoursFor 0 [some (.ref 0), some (.ref 7), some (.int i)] [] M Q
  refine pv_aloadn (pc := 0) (n := 1) 1 rfl rfl (fm_dec dtX11_hoursFor 0 rfl) ?_
  refine pv_iloadn (pc := 1) (n := 2) 2 rfl rfl (fm_dec dtX11_hoursFor 1 rfl) ?_
  refine pv_iS2 (d' := 0) (pc := 2) pcs_X11_283 (Nat.le_of_ble_eq_true rfl) (by decide) (fm_dec dtX11_hoursFor 2 rfl) ?_
  refine c_hasPiece7 hi hk (fun _ => ?_) (fun _ => ?_)
  · refine pv_then1 ?_
    refine pv_if_eq (pc := 5) 16 (by decide) (fm_dec dtX11_hoursFor 3 rfl) (fun hc5 => by exfalso; revert hc5; decide) (fun _ => ?_)
    refine pv_aloadn (pc := 8) (n := 0) 0 rfl rfl (fm_dec dtX11_hoursFor 4 rfl) ?_
    refine pv_iloadn (pc := 9) (n := 2) 2 rfl rfl (fm_dec dtX11_hoursFor 5 rfl) ?_
    refine pv_invV1 (k := 0) (d' := 1) (pc := 10) pcv_X11_287 (by decide) rfl (Nat.le_of_ble_eq_true rfl) (by decide) (fm_dec dtX11_hoursFor 6 rfl) ?_
    refine s_renew hi hk hI (fun n9 h91 h99 => ?_)
    refine pv_then1 ?_
    refine pv_goto (pc := 13) 24 (by decide) (fm_dec dtX11_hoursFor 7 rfl) ?_
    exact pv_ireturn (pc := 24) rfl (fm_dec dtX11_hoursFor 14 rfl) (hq n9 h91 h99)
  · refine pv_then1 ?_
    refine pv_if_eq (pc := 5) 16 (by decide) (fm_dec dtX11_hoursFor 3 rfl) (fun _ => ?_) (fun hc5 => by exfalso; revert hc5; decide)
    refine pv_aloadn (pc := 16) (n := 0) 0 rfl rfl (fm_dec dtX11_hoursFor 8 rfl) ?_
    refine pv_getR (k := 0) (j := 14) (ci := 11) (pc := 17) 17 rfl (by decide) pfl_X11_31 (by decide) rfl (by decide) (fm_dec dtX11_hoursFor 9 rfl) ?_
    refine pv_iloadn (pc := 20) (n := 2) 2 rfl rfl (fm_dec dtX11_hoursFor 10 rfl) ?_
    refine pv_aald (k := 17) (n := 8) (r := (35 + k)) (pc := 21) (by decide) (Or.inr (Or.inr rfl)) rfl (rw_life.inb hi hk) (rw_life.at hi hk) (rw_life.2.2.2 _ hk).2.1 (fm_dec dtX11_hoursFor 11 rfl) ?_
    refine pv_iconst (pc := 22) (v := 3) (by decide) (fm_dec dtX11_hoursFor 12 rfl) ?_
    refine pv_iald (k := (35 + k)) (n := 6) (pc := 23) (rw_life.2.2.2 _ hk).2.2.1 (rw_life.2.2.2 _ hk).2.2.2.1 (rw_life.2.2.2 _ hk).2.2.2.2 (fm_inl (by decide)) (fm_dec dtX11_hoursFor 13 rfl) ?_
    exact pv_ireturn (pc := 24) rfl (fm_dec dtX11_hoursFor 14 rfl) (hq _ (hr_19 hI hk hl).1 (hr_19 hI hk hl).2)
theorem s_saved7 {M : fmM} {Q : fmR → fmM → Prop} {i : Int32} {k : Nat} (hi : i.toInt = k) (hk : k < 8) (hI : scInv Tm invM M) (hq : ∀ (n : Int32) (M' : fmM), scInv Tm invM M' → scFr [(5, 0, 160), (6, 0, 5)] M M' → Q (.inl (some (.int n))) M') : pvGood Tm 8 qX11_saved [.ref 0, .ref 7, .int i] M Q := (hh_X11_saved_4 M [(k : Int)] [.ref 0, .ref 7, .int i] (sc_sg hi ⟨by omega, by omega⟩) ⟨⟨0, by simp, rfl⟩, ⟨7, by simp, rfl⟩, ⟨i, rfl, ⟨(k : Int), rfl, hi.trans (Int.add_zero _).symm⟩⟩, trivial⟩ (fun f hf => by cases hf) hI).imp (fun r M' h => by
  obtain ⟨⟨n, rfl, -, -⟩, h1, h2⟩ := sc_o1 h
  exact hq n M' h1 h2)
theorem low_nz {n : Int32} (h1 : 1 ≤ n.toInt) (h9 : n.toInt ≤ 9) : ¬ (4096 * n.toInt64 : Int64) = 0 := by
  intro e
  have e1 := congrArg Int64.toInt e
  rw [Int64.toInt_mul, Int32.toInt_toInt64, show (4096 : Int64).toInt = 4096 by decide, show (0 : Int64).toInt = 0 by decide, Int.bmod_eq_of_le (by omega) (by omega)] at e1
  omega
set_option maxRecDepth 20000 in
theorem t_saves {M : fmM} {Q : fmR → fmM → Prop} {i p : Int32} (hI : scInv Tm invM M) (hq : ∀ (r : fmR) (M' : fmM), tJ r → scInv Tm invM M' → Q r M') : pvGood Tm 9 qX11_saves [.ref 0, .int i, .int p] M Q := by
  refine pvGood_of (Nat.le_of_ble_eq_true rfl) ?_
  show pvEv Tm 9 qX11_saves 0 [some (.ref 0), some (.int i), some (.int p)] [] M Q
  obtain ⟨l, h4, hl⟩ := told8 hI
  have hI0 := hI.p00 (x := 0) (Or.inl rfl)
  refine pv_aloadn (pc := 0) (n := 0) 0 rfl rfl (fm_dec dtX11_saves 0 rfl) ?_
  refine pv_iconst (pc := 1) (v := 0) (by decide) (fm_dec dtX11_saves 1 rfl) ?_
  refine pv_putI (k := 0) (j := 0) (ci := 11) (pc := 2) pfl_X11_101 (by decide) rfl (by decide) (fm_dec dtX11_saves 2 rfl) ?_
  refine pv_aloadn (pc := 5) (n := 0) 0 rfl rfl (fm_dec dtX11_saves 3 rfl) ?_
  refine pv_aloadn (pc := 6) (n := 0) 0 rfl rfl (fm_dec dtX11_saves 4 rfl) ?_
  refine pv_iloadn (pc := 7) (n := 1) 1 rfl rfl (fm_dec dtX11_saves 5 rfl) ?_
  refine pv_invV1 (k := 0) (d' := 1) (pc := 8) pcv_X11_331 (by decide) rfl (Nat.le_of_ble_eq_true rfl) (by decide) (fm_dec dtX11_saves 6 rfl) ?_
  refine c_isLife (M := fmI M 0 0 0) h4 hl (fun k hk hkl => ?_) (fun hno => ?_)
  · refine pv_then1 ?_
    refine pv_if_ne (pc := 11) 18 (by decide) (fm_dec dtX11_saves 7 rfl) (fun _ => ?_) (fun hc11 => by exfalso; revert hc11; decide)
    refine pv_iconst (pc := 18) (v := 0) (by decide) (fm_dec dtX11_saves 10 rfl) ?_
    refine pv_iconst (pc := 19) (v := 1) (by decide) (fm_dec dtX11_saves 11 rfl) ?_
    refine pv_iconst (pc := 20) (v := 0) (by decide) (fm_dec dtX11_saves 12 rfl) ?_
    refine pv_invV3 (k := 0) (d' := 0) (pc := 21) pcv_X11_177 (by decide) rfl (Nat.le_of_ble_eq_true rfl) (by decide) (fm_dec dtX11_saves 13 rfl) ?_
    refine c_badF0 rfl ?_
    refine pv_then1 ?_
    refine pv_if_ne (pc := 24) 36 (by decide) (fm_dec dtX11_saves 14 rfl) (fun hc24 => by exfalso; revert hc24; decide) (fun _ => ?_)
    refine pv_aloadn (pc := 27) (n := 0) 0 rfl rfl (fm_dec dtX11_saves 15 rfl) ?_
    refine pv_iloadn (pc := 28) (n := 2) 2 rfl rfl (fm_dec dtX11_saves 16 rfl) ?_
    refine pv_iconst (pc := 29) (v := 2) (by decide) (fm_dec dtX11_saves 17 rfl) ?_
    refine pv_invV2 (k := 0) (d' := 1) (pc := 30) pcv_X11_340 (by decide) rfl (Nat.le_of_ble_eq_true rfl) (by decide) (fm_dec dtX11_saves 18 rfl) ?_
    refine c_noPart2 rfl (fun _ _ => ?_) (fun _ => ?_)
    · refine pv_then1 ?_
      refine pv_if_eq (pc := 33) 38 (by decide) (fm_dec dtX11_saves 19 rfl) (fun _ => ?_) (fun hc33 => by exfalso; revert hc33; decide)
      refine pv_aloadn (pc := 38) (n := 0) 0 rfl rfl (fm_dec dtX11_saves 22 rfl) ?_
      refine pv_aloadn (pc := 39) (n := 0) 0 rfl rfl (fm_dec dtX11_saves 23 rfl) ?_
      refine pv_getR (k := 0) (j := 27) (ci := 11) (pc := 40) 7 rfl (by decide) pfl_X11_61 (by decide) rfl (by decide) (fm_dec dtX11_saves 24 rfl) ?_
      refine pv_iloadn (pc := 43) (n := 1) 1 rfl rfl (fm_dec dtX11_saves 25 rfl) ?_
      refine pv_invV2 (k := 0) (d' := 8) (pc := 44) pcv_X11_355 (by decide) rfl (Nat.le_of_ble_eq_true rfl) (by decide) (fm_dec dtX11_saves 26 rfl) ?_
      refine s_saved7 hk (by omega) hI0 (fun n44 M44 hI44 f44 => ?_)
      refine pv_then1 ?_
      refine pv_i2l (pc := 47) (fm_dec dtX11_saves 27 rfl) ?_
      refine pv_ldc2 (pc := 48) pkc_X11_353 (fm_dec dtX11_saves 28 rfl) ?_
      refine pv_aloadn (pc := 51) (n := 0) 0 rfl rfl (fm_dec dtX11_saves 29 rfl) ?_
      refine pv_aloadn (pc := 52) (n := 0) 0 rfl rfl (fm_dec dtX11_saves 30 rfl) ?_
      refine pv_getR (k := 0) (j := 27) (ci := 11) (pc := 53) 7 rfl (by decide) pfl_X11_61 (by decide) rfl (by decide) (fm_dec dtX11_saves 31 rfl) ?_
      refine pv_iloadn (pc := 56) (n := 1) 1 rfl rfl (fm_dec dtX11_saves 32 rfl) ?_
      refine pv_invV2 (k := 0) (d' := 2) (pc := 57) pcv_X11_290 (by decide) rfl (Nat.le_of_ble_eq_true rfl) (by decide) (fm_dec dtX11_saves 33 rfl) ?_
      refine s_hours7 hk (by omega) (by have h9 : M44.1 4 0 = M.1 4 0 := (f44 4 0 rfl).1; rw [h9, h4]; omega) hI44 (fun n57 h571 h579 => ?_)
      refine pv_then1 ?_
      refine pv_i2l (pc := 60) (fm_dec dtX11_saves 34 rfl) ?_
      refine pv_lmul (pc := 61) (fm_dec dtX11_saves 35 rfl) ?_
      refine pv_iloadn (pc := 62) (n := 2) 2 rfl rfl (fm_dec dtX11_saves 36 rfl) ?_
      refine pv_iS3 (d' := 0) (pc := 63) pcs_X11_345 (Nat.le_of_ble_eq_true rfl) (by decide) (fm_dec dtX11_saves 37 rfl) ?_
      refine c_partOf (low_nz h571 h579) (fun r63 => ?_)
      refine pv_then1 ?_
      exact pv_lreturn (pc := 66) rfl (fm_dec dtX11_saves 38 rfl) (hq _ _ ⟨_, rfl⟩ hI44)
    · refine pv_then1 ?_
      refine pv_if_eq (pc := 33) 38 (by decide) (fm_dec dtX11_saves 19 rfl) (fun hc33 => by exfalso; revert hc33; decide) (fun _ => ?_)
      refine pv_lconst (pc := 36) (v := 0) (by decide) (fm_dec dtX11_saves 20 rfl) ?_
      exact pv_lreturn (pc := 37) rfl (fm_dec dtX11_saves 21 rfl) (hq _ _ ⟨_, rfl⟩ (hI0.p00 (Or.inr (Or.inr rfl))).p2)
  · refine pv_then1 ?_
    refine pv_if_ne (pc := 11) 18 (by decide) (fm_dec dtX11_saves 7 rfl) (fun hc11 => by exfalso; revert hc11; decide) (fun _ => ?_)
    refine pv_iconst (pc := 14) (v := 1) (by decide) (fm_dec dtX11_saves 8 rfl) ?_
    refine pv_goto (pc := 15) 19 (by decide) (fm_dec dtX11_saves 9 rfl) ?_
    refine pv_iconst (pc := 19) (v := 1) (by decide) (fm_dec dtX11_saves 11 rfl) ?_
    refine pv_iconst (pc := 20) (v := 0) (by decide) (fm_dec dtX11_saves 12 rfl) ?_
    refine pv_invV3 (k := 0) (d' := 0) (pc := 21) pcv_X11_177 (by decide) rfl (Nat.le_of_ble_eq_true rfl) (by decide) (fm_dec dtX11_saves 13 rfl) ?_
    refine c_badT0 rfl (by decide) ?_
    refine pv_then1 ?_
    refine pv_if_ne (pc := 24) 36 (by decide) (fm_dec dtX11_saves 14 rfl) (fun _ => ?_) (fun hc24 => by exfalso; revert hc24; decide)
    refine pv_lconst (pc := 36) (v := 0) (by decide) (fm_dec dtX11_saves 20 rfl) ?_
    exact pv_lreturn (pc := 37) rfl (fm_dec dtX11_saves 21 rfl) (hq _ _ ⟨_, rfl⟩ (hI0.p00 (Or.inr (Or.inl rfl))).p2)
set_option maxRecDepth 20000 in
theorem c_ones {M : fmM} {Q : fmR → fmM → Prop} {b : Int32} (hq : ∀ r : Int32, Q (.inl (some (.int r))) M) : pvGood Tm 0 qX11_ones [.int b] M Q := by
  refine pvGood_of (Nat.le_of_ble_eq_true rfl) ?_
  show pvEv Tm 0 qX11_ones 0 [some (.int b), none, none] [] M Q
  refine pv_iconst (pc := 0) (v := 0) (by decide) (fm_dec dtX11_ones 0 rfl) ?_
  refine pv_istoren (pc := 1) (n := 1) 1 rfl (by decide) rfl (fm_dec dtX11_ones 1 rfl) ?_
  dsimp only [List.set_cons_zero, List.set_cons_succ]
  refine pv_iconst (pc := 2) (v := 0) (by decide) (fm_dec dtX11_ones 2 rfl) ?_
  refine pv_istoren (pc := 3) (n := 2) 2 rfl (by decide) rfl (fm_dec dtX11_ones 3 rfl) ?_
  dsimp only [List.set_cons_zero, List.set_cons_succ]
  refine pv_iloadn (pc := 4) (n := 2) 2 rfl rfl (fm_dec dtX11_ones 4 rfl) ?_
  refine pv_bipush (pc := 5) (v := 8) (by decide) (fm_dec dtX11_ones 5 rfl) ?_
  refine pv_icmp_ge (pc := 7) 24 (by decide) (fm_dec dtX11_ones 6 rfl) (fun hc7 => by exfalso; revert hc7; decide) (fun _ => ?_)
  refine pv_iloadn (pc := 10) (n := 1) 1 rfl rfl (fm_dec dtX11_ones 7 rfl) ?_
  refine pv_iloadn (pc := 11) (n := 0) 0 rfl rfl (fm_dec dtX11_ones 8 rfl) ?_
  refine pv_iloadn (pc := 12) (n := 2) 2 rfl rfl (fm_dec dtX11_ones 9 rfl) ?_
  refine pv_ishr (pc := 13) (fm_dec dtX11_ones 10 rfl) ?_
  refine pv_iconst (pc := 14) (v := 1) (by decide) (fm_dec dtX11_ones 11 rfl) ?_
  refine pv_iand (pc := 15) (fm_dec dtX11_ones 12 rfl) ?_
  refine pv_iadd (pc := 16) (fm_dec dtX11_ones 13 rfl) ?_
  refine pv_istoren (pc := 17) (n := 1) 1 rfl (by decide) rfl (fm_dec dtX11_ones 14 rfl) ?_
  dsimp only [List.set_cons_zero, List.set_cons_succ]
  refine pv_iincc (pc := 18) 2 1 (by decide) rfl (by decide) rfl (fm_dec dtX11_ones 15 rfl) ?_
  dsimp only [List.set_cons_zero, List.set_cons_succ]
  rw [show (0 : Int32) + 1 = 1 by decide]
  refine pv_goto (pc := 21) 4 (by decide) (fm_dec dtX11_ones 16 rfl) ?_
  refine pv_iloadn (pc := 4) (n := 2) 2 rfl rfl (fm_dec dtX11_ones 4 rfl) ?_
  refine pv_bipush (pc := 5) (v := 8) (by decide) (fm_dec dtX11_ones 5 rfl) ?_
  refine pv_icmp_ge (pc := 7) 24 (by decide) (fm_dec dtX11_ones 6 rfl) (fun hc7 => by exfalso; revert hc7; decide) (fun _ => ?_)
  refine pv_iloadn (pc := 10) (n := 1) 1 rfl rfl (fm_dec dtX11_ones 7 rfl) ?_
  refine pv_iloadn (pc := 11) (n := 0) 0 rfl rfl (fm_dec dtX11_ones 8 rfl) ?_
  refine pv_iloadn (pc := 12) (n := 2) 2 rfl rfl (fm_dec dtX11_ones 9 rfl) ?_
  refine pv_ishr (pc := 13) (fm_dec dtX11_ones 10 rfl) ?_
  refine pv_iconst (pc := 14) (v := 1) (by decide) (fm_dec dtX11_ones 11 rfl) ?_
  refine pv_iand (pc := 15) (fm_dec dtX11_ones 12 rfl) ?_
  refine pv_iadd (pc := 16) (fm_dec dtX11_ones 13 rfl) ?_
  refine pv_istoren (pc := 17) (n := 1) 1 rfl (by decide) rfl (fm_dec dtX11_ones 14 rfl) ?_
  dsimp only [List.set_cons_zero, List.set_cons_succ]
  refine pv_iincc (pc := 18) 2 1 (by decide) rfl (by decide) rfl (fm_dec dtX11_ones 15 rfl) ?_
  dsimp only [List.set_cons_zero, List.set_cons_succ]
  rw [show (1 : Int32) + 1 = 2 by decide]
  refine pv_goto (pc := 21) 4 (by decide) (fm_dec dtX11_ones 16 rfl) ?_
  refine pv_iloadn (pc := 4) (n := 2) 2 rfl rfl (fm_dec dtX11_ones 4 rfl) ?_
  refine pv_bipush (pc := 5) (v := 8) (by decide) (fm_dec dtX11_ones 5 rfl) ?_
  refine pv_icmp_ge (pc := 7) 24 (by decide) (fm_dec dtX11_ones 6 rfl) (fun hc7 => by exfalso; revert hc7; decide) (fun _ => ?_)
  refine pv_iloadn (pc := 10) (n := 1) 1 rfl rfl (fm_dec dtX11_ones 7 rfl) ?_
  refine pv_iloadn (pc := 11) (n := 0) 0 rfl rfl (fm_dec dtX11_ones 8 rfl) ?_
  refine pv_iloadn (pc := 12) (n := 2) 2 rfl rfl (fm_dec dtX11_ones 9 rfl) ?_
  refine pv_ishr (pc := 13) (fm_dec dtX11_ones 10 rfl) ?_
  refine pv_iconst (pc := 14) (v := 1) (by decide) (fm_dec dtX11_ones 11 rfl) ?_
  refine pv_iand (pc := 15) (fm_dec dtX11_ones 12 rfl) ?_
  refine pv_iadd (pc := 16) (fm_dec dtX11_ones 13 rfl) ?_
  refine pv_istoren (pc := 17) (n := 1) 1 rfl (by decide) rfl (fm_dec dtX11_ones 14 rfl) ?_
  dsimp only [List.set_cons_zero, List.set_cons_succ]
  refine pv_iincc (pc := 18) 2 1 (by decide) rfl (by decide) rfl (fm_dec dtX11_ones 15 rfl) ?_
  dsimp only [List.set_cons_zero, List.set_cons_succ]
  rw [show (2 : Int32) + 1 = 3 by decide]
  refine pv_goto (pc := 21) 4 (by decide) (fm_dec dtX11_ones 16 rfl) ?_
  refine pv_iloadn (pc := 4) (n := 2) 2 rfl rfl (fm_dec dtX11_ones 4 rfl) ?_
  refine pv_bipush (pc := 5) (v := 8) (by decide) (fm_dec dtX11_ones 5 rfl) ?_
  refine pv_icmp_ge (pc := 7) 24 (by decide) (fm_dec dtX11_ones 6 rfl) (fun hc7 => by exfalso; revert hc7; decide) (fun _ => ?_)
  refine pv_iloadn (pc := 10) (n := 1) 1 rfl rfl (fm_dec dtX11_ones 7 rfl) ?_
  refine pv_iloadn (pc := 11) (n := 0) 0 rfl rfl (fm_dec dtX11_ones 8 rfl) ?_
  refine pv_iloadn (pc := 12) (n := 2) 2 rfl rfl (fm_dec dtX11_ones 9 rfl) ?_
  refine pv_ishr (pc := 13) (fm_dec dtX11_ones 10 rfl) ?_
  refine pv_iconst (pc := 14) (v := 1) (by decide) (fm_dec dtX11_ones 11 rfl) ?_
  refine pv_iand (pc := 15) (fm_dec dtX11_ones 12 rfl) ?_
  refine pv_iadd (pc := 16) (fm_dec dtX11_ones 13 rfl) ?_
  refine pv_istoren (pc := 17) (n := 1) 1 rfl (by decide) rfl (fm_dec dtX11_ones 14 rfl) ?_
  dsimp only [List.set_cons_zero, List.set_cons_succ]
  refine pv_iincc (pc := 18) 2 1 (by decide) rfl (by decide) rfl (fm_dec dtX11_ones 15 rfl) ?_
  dsimp only [List.set_cons_zero, List.set_cons_succ]
  rw [show (3 : Int32) + 1 = 4 by decide]
  refine pv_goto (pc := 21) 4 (by decide) (fm_dec dtX11_ones 16 rfl) ?_
  refine pv_iloadn (pc := 4) (n := 2) 2 rfl rfl (fm_dec dtX11_ones 4 rfl) ?_
  refine pv_bipush (pc := 5) (v := 8) (by decide) (fm_dec dtX11_ones 5 rfl) ?_
  refine pv_icmp_ge (pc := 7) 24 (by decide) (fm_dec dtX11_ones 6 rfl) (fun hc7 => by exfalso; revert hc7; decide) (fun _ => ?_)
  refine pv_iloadn (pc := 10) (n := 1) 1 rfl rfl (fm_dec dtX11_ones 7 rfl) ?_
  refine pv_iloadn (pc := 11) (n := 0) 0 rfl rfl (fm_dec dtX11_ones 8 rfl) ?_
  refine pv_iloadn (pc := 12) (n := 2) 2 rfl rfl (fm_dec dtX11_ones 9 rfl) ?_
  refine pv_ishr (pc := 13) (fm_dec dtX11_ones 10 rfl) ?_
  refine pv_iconst (pc := 14) (v := 1) (by decide) (fm_dec dtX11_ones 11 rfl) ?_
  refine pv_iand (pc := 15) (fm_dec dtX11_ones 12 rfl) ?_
  refine pv_iadd (pc := 16) (fm_dec dtX11_ones 13 rfl) ?_
  refine pv_istoren (pc := 17) (n := 1) 1 rfl (by decide) rfl (fm_dec dtX11_ones 14 rfl) ?_
  dsimp only [List.set_cons_zero, List.set_cons_succ]
  refine pv_iincc (pc := 18) 2 1 (by decide) rfl (by decide) rfl (fm_dec dtX11_ones 15 rfl) ?_
  dsimp only [List.set_cons_zero, List.set_cons_succ]
  rw [show (4 : Int32) + 1 = 5 by decide]
  refine pv_goto (pc := 21) 4 (by decide) (fm_dec dtX11_ones 16 rfl) ?_
  refine pv_iloadn (pc := 4) (n := 2) 2 rfl rfl (fm_dec dtX11_ones 4 rfl) ?_
  refine pv_bipush (pc := 5) (v := 8) (by decide) (fm_dec dtX11_ones 5 rfl) ?_
  refine pv_icmp_ge (pc := 7) 24 (by decide) (fm_dec dtX11_ones 6 rfl) (fun hc7 => by exfalso; revert hc7; decide) (fun _ => ?_)
  refine pv_iloadn (pc := 10) (n := 1) 1 rfl rfl (fm_dec dtX11_ones 7 rfl) ?_
  refine pv_iloadn (pc := 11) (n := 0) 0 rfl rfl (fm_dec dtX11_ones 8 rfl) ?_
  refine pv_iloadn (pc := 12) (n := 2) 2 rfl rfl (fm_dec dtX11_ones 9 rfl) ?_
  refine pv_ishr (pc := 13) (fm_dec dtX11_ones 10 rfl) ?_
  refine pv_iconst (pc := 14) (v := 1) (by decide) (fm_dec dtX11_ones 11 rfl) ?_
  refine pv_iand (pc := 15) (fm_dec dtX11_ones 12 rfl) ?_
  refine pv_iadd (pc := 16) (fm_dec dtX11_ones 13 rfl) ?_
  refine pv_istoren (pc := 17) (n := 1) 1 rfl (by decide) rfl (fm_dec dtX11_ones 14 rfl) ?_
  dsimp only [List.set_cons_zero, List.set_cons_succ]
  refine pv_iincc (pc := 18) 2 1 (by decide) rfl (by decide) rfl (fm_dec dtX11_ones 15 rfl) ?_
  dsimp only [List.set_cons_zero, List.set_cons_succ]
  rw [show (5 : Int32) + 1 = 6 by decide]
  refine pv_goto (pc := 21) 4 (by decide) (fm_dec dtX11_ones 16 rfl) ?_
  refine pv_iloadn (pc := 4) (n := 2) 2 rfl rfl (fm_dec dtX11_ones 4 rfl) ?_
  refine pv_bipush (pc := 5) (v := 8) (by decide) (fm_dec dtX11_ones 5 rfl) ?_
  refine pv_icmp_ge (pc := 7) 24 (by decide) (fm_dec dtX11_ones 6 rfl) (fun hc7 => by exfalso; revert hc7; decide) (fun _ => ?_)
  refine pv_iloadn (pc := 10) (n := 1) 1 rfl rfl (fm_dec dtX11_ones 7 rfl) ?_
  refine pv_iloadn (pc := 11) (n := 0) 0 rfl rfl (fm_dec dtX11_ones 8 rfl) ?_
  refine pv_iloadn (pc := 12) (n := 2) 2 rfl rfl (fm_dec dtX11_ones 9 rfl) ?_
  refine pv_ishr (pc := 13) (fm_dec dtX11_ones 10 rfl) ?_
  refine pv_iconst (pc := 14) (v := 1) (by decide) (fm_dec dtX11_ones 11 rfl) ?_
  refine pv_iand (pc := 15) (fm_dec dtX11_ones 12 rfl) ?_
  refine pv_iadd (pc := 16) (fm_dec dtX11_ones 13 rfl) ?_
  refine pv_istoren (pc := 17) (n := 1) 1 rfl (by decide) rfl (fm_dec dtX11_ones 14 rfl) ?_
  dsimp only [List.set_cons_zero, List.set_cons_succ]
  refine pv_iincc (pc := 18) 2 1 (by decide) rfl (by decide) rfl (fm_dec dtX11_ones 15 rfl) ?_
  dsimp only [List.set_cons_zero, List.set_cons_succ]
  rw [show (6 : Int32) + 1 = 7 by decide]
  refine pv_goto (pc := 21) 4 (by decide) (fm_dec dtX11_ones 16 rfl) ?_
  refine pv_iloadn (pc := 4) (n := 2) 2 rfl rfl (fm_dec dtX11_ones 4 rfl) ?_
  refine pv_bipush (pc := 5) (v := 8) (by decide) (fm_dec dtX11_ones 5 rfl) ?_
  refine pv_icmp_ge (pc := 7) 24 (by decide) (fm_dec dtX11_ones 6 rfl) (fun hc7 => by exfalso; revert hc7; decide) (fun _ => ?_)
  refine pv_iloadn (pc := 10) (n := 1) 1 rfl rfl (fm_dec dtX11_ones 7 rfl) ?_
  refine pv_iloadn (pc := 11) (n := 0) 0 rfl rfl (fm_dec dtX11_ones 8 rfl) ?_
  refine pv_iloadn (pc := 12) (n := 2) 2 rfl rfl (fm_dec dtX11_ones 9 rfl) ?_
  refine pv_ishr (pc := 13) (fm_dec dtX11_ones 10 rfl) ?_
  refine pv_iconst (pc := 14) (v := 1) (by decide) (fm_dec dtX11_ones 11 rfl) ?_
  refine pv_iand (pc := 15) (fm_dec dtX11_ones 12 rfl) ?_
  refine pv_iadd (pc := 16) (fm_dec dtX11_ones 13 rfl) ?_
  refine pv_istoren (pc := 17) (n := 1) 1 rfl (by decide) rfl (fm_dec dtX11_ones 14 rfl) ?_
  dsimp only [List.set_cons_zero, List.set_cons_succ]
  refine pv_iincc (pc := 18) 2 1 (by decide) rfl (by decide) rfl (fm_dec dtX11_ones 15 rfl) ?_
  dsimp only [List.set_cons_zero, List.set_cons_succ]
  rw [show (7 : Int32) + 1 = 8 by decide]
  refine pv_goto (pc := 21) 4 (by decide) (fm_dec dtX11_ones 16 rfl) ?_
  refine pv_iloadn (pc := 4) (n := 2) 2 rfl rfl (fm_dec dtX11_ones 4 rfl) ?_
  refine pv_bipush (pc := 5) (v := 8) (by decide) (fm_dec dtX11_ones 5 rfl) ?_
  refine pv_icmp_ge (pc := 7) 24 (by decide) (fm_dec dtX11_ones 6 rfl) (fun _ => ?_) (fun hc7 => by exfalso; revert hc7; decide)
  refine pv_iloadn (pc := 24) (n := 1) 1 rfl rfl (fm_dec dtX11_ones 17 rfl) ?_
  exact pv_ireturn (pc := 25) rfl (fm_dec dtX11_ones 18 rfl) (hq _)
set_option maxRecDepth 20000 in
theorem ch_loop {Q : fmR → fmM → Prop} {M : fmM} {i what : Int32} (hI : scInv Tm invM M) (hq : ∀ n : Int32, Q (.inl (some (.int n))) M) : ∀ (m : Nat) (been last : Int32) (w kl : Nat), been = nI w → w < 256 → 8 - pop8 w = m → last.toInt = kl → kl < 8 → pvEv Tm 2 qX11_chain 59 [some (.ref 0), some (.int i), some (.int what), some (.int been), some (.int last)] [] M Q := by
  intro m
  induction m using Nat.strongRecOn with
  | _ m ih =>
    intro been last w kl hbe hw hm hkl hkl8
    refine pv_aloadn (pc := 59) (n := 0) 0 rfl rfl (fm_dec dtX11_chain 36 rfl) ?_
    refine pv_getR (k := 0) (j := 14) (ci := 11) (pc := 60) 17 rfl (by decide) pfl_X11_31 (by decide) rfl (by decide) (fm_dec dtX11_chain 37 rfl) ?_
    refine pv_iload (pc := 63) (i := 4) rfl (fm_dec dtX11_chain 38 rfl) ?_
    refine pv_aald (k := 17) (n := 8) (r := (35 + kl)) (pc := 65) (by decide) (Or.inr (Or.inr rfl)) rfl (rw_life.inb hkl hkl8) (rw_life.at hkl hkl8) (rw_life.2.2.2 _ hkl8).2.1 (fm_dec dtX11_chain 39 rfl) ?_
    refine pv_iconst (pc := 66) (v := 5) (by decide) (fm_dec dtX11_chain 40 rfl) ?_
    refine pv_iald (k := (35 + kl)) (n := 6) (pc := 67) (rw_life.2.2.2 _ hkl8).2.2.1 (rw_life.2.2.2 _ hkl8).2.2.2.1 (rw_life.2.2.2 _ hkl8).2.2.2.2 (fm_inl (by decide)) (fm_dec dtX11_chain 41 rfl) ?_
    refine pv_iconst (pc := 68) (v := (-1)) (by decide) (fm_dec dtX11_chain 42 rfl) ?_
    refine pv_icmp_eq (pc := 69) 109 (by decide) (fm_dec dtX11_chain 43 rfl) (fun hc69 => ?_) (fun hc69 => ?_)
    · refine pv_iloadn (pc := 109) (n := 2) 2 rfl rfl (fm_dec dtX11_chain 67 rfl) ?_
      refine pv_if_ne (pc := 110) 120 (by decide) (fm_dec dtX11_chain 68 rfl) (fun hc110 => ?_) (fun hc110 => ?_)
      · refine pv_iload (pc := 120) (i := 4) rfl (fm_dec dtX11_chain 72 rfl) ?_
        exact pv_ireturn (pc := 122) rfl (fm_dec dtX11_chain 73 rfl) (hq _)
      · refine pv_iloadn (pc := 113) (n := 3) 3 rfl rfl (fm_dec dtX11_chain 69 rfl) ?_
        refine pv_iS1 (d' := 0) (pc := 114) pcs_X11_416 (Nat.le_of_ble_eq_true rfl) (by decide) (fm_dec dtX11_chain 70 rfl) ?_
        refine c_ones (fun r114 => ?_)
        refine pv_then1 ?_
        refine pv_goto (pc := 117) 122 (by decide) (fm_dec dtX11_chain 71 rfl) ?_
        exact pv_ireturn (pc := 122) rfl (fm_dec dtX11_chain 73 rfl) (hq _)
    · obtain ⟨v, hv8, hve, hvi⟩ := by_k (x := M.1 (35 + kl) (Int32.toNatClampNeg 5)) rfl hI hkl8 hc69
      refine pv_iloadn (pc := 72) (n := 3) 3 rfl rfl (fm_dec dtX11_chain 44 rfl) ?_
      refine pv_aloadn (pc := 73) (n := 0) 0 rfl rfl (fm_dec dtX11_chain 45 rfl) ?_
      refine pv_getR (k := 0) (j := 14) (ci := 11) (pc := 74) 17 rfl (by decide) pfl_X11_31 (by decide) rfl (by decide) (fm_dec dtX11_chain 46 rfl) ?_
      refine pv_iload (pc := 77) (i := 4) rfl (fm_dec dtX11_chain 47 rfl) ?_
      refine pv_aald (k := 17) (n := 8) (r := (35 + kl)) (pc := 79) (by decide) (Or.inr (Or.inr rfl)) rfl (rw_life.inb hkl hkl8) (rw_life.at hkl hkl8) (rw_life.2.2.2 _ hkl8).2.1 (fm_dec dtX11_chain 48 rfl) ?_
      refine pv_iconst (pc := 80) (v := 5) (by decide) (fm_dec dtX11_chain 49 rfl) ?_
      refine pv_iald (k := (35 + kl)) (n := 6) (pc := 81) (rw_life.2.2.2 _ hkl8).2.2.1 (rw_life.2.2.2 _ hkl8).2.2.2.1 (rw_life.2.2.2 _ hkl8).2.2.2.2 (fm_inl (by decide)) (fm_dec dtX11_chain 50 rfl) ?_
      refine pv_iS2 (d' := 0) (pc := 82) pcs_X11_256 (Nat.le_of_ble_eq_true rfl) (by decide) (fm_dec dtX11_chain 51 rfl) ?_
      refine c_has (fun h82 => ?_) (fun h82 => ?_)
      · refine pv_then1 ?_
        refine pv_if_ne (pc := 85) 109 (by decide) (fm_dec dtX11_chain 52 rfl) (fun _ => ?_) (fun hc85 => by exfalso; revert hc85; decide)
        refine pv_iloadn (pc := 109) (n := 2) 2 rfl rfl (fm_dec dtX11_chain 67 rfl) ?_
        refine pv_if_ne (pc := 110) 120 (by decide) (fm_dec dtX11_chain 68 rfl) (fun hc110 => ?_) (fun hc110 => ?_)
        · refine pv_iload (pc := 120) (i := 4) rfl (fm_dec dtX11_chain 72 rfl) ?_
          exact pv_ireturn (pc := 122) rfl (fm_dec dtX11_chain 73 rfl) (hq _)
        · refine pv_iloadn (pc := 113) (n := 3) 3 rfl rfl (fm_dec dtX11_chain 69 rfl) ?_
          refine pv_iS1 (d' := 0) (pc := 114) pcs_X11_416 (Nat.le_of_ble_eq_true rfl) (by decide) (fm_dec dtX11_chain 70 rfl) ?_
          refine c_ones (fun r114 => ?_)
          refine pv_then1 ?_
          refine pv_goto (pc := 117) 122 (by decide) (fm_dec dtX11_chain 71 rfl) ?_
          exact pv_ireturn (pc := 122) rfl (fm_dec dtX11_chain 73 rfl) (hq _)
      · refine pv_then1 ?_
        refine pv_if_ne (pc := 85) 109 (by decide) (fm_dec dtX11_chain 52 rfl) (fun hc85 => by exfalso; revert hc85; decide) (fun _ => ?_)
        refine pv_aloadn (pc := 88) (n := 0) 0 rfl rfl (fm_dec dtX11_chain 53 rfl) ?_
        refine pv_getR (k := 0) (j := 14) (ci := 11) (pc := 89) 17 rfl (by decide) pfl_X11_31 (by decide) rfl (by decide) (fm_dec dtX11_chain 54 rfl) ?_
        refine pv_iload (pc := 92) (i := 4) rfl (fm_dec dtX11_chain 55 rfl) ?_
        refine pv_aald (k := 17) (n := 8) (r := (35 + kl)) (pc := 94) (by decide) (Or.inr (Or.inr rfl)) rfl (rw_life.inb hkl hkl8) (rw_life.at hkl hkl8) (rw_life.2.2.2 _ hkl8).2.1 (fm_dec dtX11_chain 56 rfl) ?_
        refine pv_iconst (pc := 95) (v := 5) (by decide) (fm_dec dtX11_chain 57 rfl) ?_
        refine pv_iald (k := (35 + kl)) (n := 6) (pc := 96) (rw_life.2.2.2 _ hkl8).2.2.1 (rw_life.2.2.2 _ hkl8).2.2.2.1 (rw_life.2.2.2 _ hkl8).2.2.2.2 (fm_inl (by decide)) (fm_dec dtX11_chain 58 rfl) ?_
        refine pv_istore (pc := 97) (i := 4) (by decide) rfl (fm_dec dtX11_chain 59 rfl) ?_
        dsimp only [List.set_cons_zero, List.set_cons_succ]
        refine pv_iloadn (pc := 99) (n := 3) 3 rfl rfl (fm_dec dtX11_chain 60 rfl) ?_
        refine pv_iconst (pc := 100) (v := 1) (by decide) (fm_dec dtX11_chain 61 rfl) ?_
        refine pv_iload (pc := 101) (i := 4) rfl (fm_dec dtX11_chain 62 rfl) ?_
        refine pv_ishl (pc := 103) (fm_dec dtX11_chain 63 rfl) ?_
        refine pv_ior (pc := 104) (fm_dec dtX11_chain 64 rfl) ?_
        refine pv_istoren (pc := 105) (n := 3) 3 rfl (by decide) rfl (fm_dec dtX11_chain 65 rfl) ?_
        dsimp only [List.set_cons_zero, List.set_cons_succ]
        refine pv_goto (pc := 106) 59 (by decide) (fm_dec dtX11_chain 66 rfl) ?_
        have hnb : w.testBit v = false := Bool.eq_false_iff.mpr (fun h9 => h82 (by rw [hbe, hve]; exact (has8 w hw v hv8).mpr h9))
        have hp := pop8_add w hw v hv8 hnb
        have hle := pop8_le _ hp.2
        exact ih (8 - pop8 (w ||| 1 <<< v)) (by omega) _ _ (w ||| 1 <<< v) v (by rw [hbe, hve]; exact or8 w hw v hv8) hp.2 rfl hvi hv8
set_option maxRecDepth 20000 in
theorem t_chain {M : fmM} {Q : fmR → fmM → Prop} {i p : Int32} (hI : scInv Tm invM M) (hq : ∀ (r : fmR) (M' : fmM), tI r → scInv Tm invM M' → Q r M') : pvGood Tm 2 qX11_chain [.ref 0, .int i, .int p] M Q := by
  refine pvGood_of (Nat.le_of_ble_eq_true rfl) ?_
  show pvEv Tm 2 qX11_chain 0 [some (.ref 0), some (.int i), some (.int p), none, none] [] M Q
  obtain ⟨l, h4, hl⟩ := told8 hI
  have hI0 := hI.p00 (x := 0) (Or.inl rfl)
  refine pv_aloadn (pc := 0) (n := 0) 0 rfl rfl (fm_dec dtX11_chain 0 rfl) ?_
  refine pv_iconst (pc := 1) (v := 0) (by decide) (fm_dec dtX11_chain 1 rfl) ?_
  refine pv_putI (k := 0) (j := 0) (ci := 11) (pc := 2) pfl_X11_101 (by decide) rfl (by decide) (fm_dec dtX11_chain 2 rfl) ?_
  refine pv_aloadn (pc := 5) (n := 0) 0 rfl rfl (fm_dec dtX11_chain 3 rfl) ?_
  refine pv_aloadn (pc := 6) (n := 0) 0 rfl rfl (fm_dec dtX11_chain 4 rfl) ?_
  refine pv_iloadn (pc := 7) (n := 1) 1 rfl rfl (fm_dec dtX11_chain 5 rfl) ?_
  refine pv_invV1 (k := 0) (d' := 1) (pc := 8) pcv_X11_331 (by decide) rfl (Nat.le_of_ble_eq_true rfl) (by decide) (fm_dec dtX11_chain 6 rfl) ?_
  refine c_isLife (M := fmI M 0 0 0) h4 hl (fun k hk hkl => ?_) (fun hno => ?_)
  · refine pv_then1 ?_
    refine pv_if_ne (pc := 11) 18 (by decide) (fm_dec dtX11_chain 7 rfl) (fun _ => ?_) (fun hc11 => by exfalso; revert hc11; decide)
    refine pv_iconst (pc := 18) (v := 0) (by decide) (fm_dec dtX11_chain 10 rfl) ?_
    refine pv_iconst (pc := 19) (v := 1) (by decide) (fm_dec dtX11_chain 11 rfl) ?_
    refine pv_iconst (pc := 20) (v := 0) (by decide) (fm_dec dtX11_chain 12 rfl) ?_
    refine pv_invV3 (k := 0) (d' := 0) (pc := 21) pcv_X11_177 (by decide) rfl (Nat.le_of_ble_eq_true rfl) (by decide) (fm_dec dtX11_chain 13 rfl) ?_
    refine c_badF0 rfl ?_
    refine pv_then1 ?_
    refine pv_if_ne (pc := 24) 50 (by decide) (fm_dec dtX11_chain 14 rfl) (fun hc24 => by exfalso; revert hc24; decide) (fun _ => ?_)
    refine pv_aloadn (pc := 27) (n := 0) 0 rfl rfl (fm_dec dtX11_chain 15 rfl) ?_
    refine pv_iloadn (pc := 28) (n := 2) 2 rfl rfl (fm_dec dtX11_chain 16 rfl) ?_
    refine pv_iconst (pc := 29) (v := 0) (by decide) (fm_dec dtX11_chain 17 rfl) ?_
    refine pv_iconst (pc := 30) (v := 1) (by decide) (fm_dec dtX11_chain 18 rfl) ?_
    refine pv_iS3 (d' := 0) (pc := 31) pcs_X11_135 (Nat.le_of_ble_eq_true rfl) (by decide) (fm_dec dtX11_chain 19 rfl) ?_
    refine c_in (fun h31a h31b => ?_) (fun h31 => ?_)
    · refine pv_then1 ?_
      refine pv_if_ne (pc := 34) 41 (by decide) (fm_dec dtX11_chain 20 rfl) (fun _ => ?_) (fun hc34 => by exfalso; revert hc34; decide)
      refine pv_iconst (pc := 41) (v := 0) (by decide) (fm_dec dtX11_chain 23 rfl) ?_
      refine pv_iconst (pc := 42) (v := 2) (by decide) (fm_dec dtX11_chain 24 rfl) ?_
      refine pv_iconst (pc := 43) (v := 1) (by decide) (fm_dec dtX11_chain 25 rfl) ?_
      refine pv_invV3 (k := 0) (d' := 0) (pc := 44) pcv_X11_177 (by decide) rfl (Nat.le_of_ble_eq_true rfl) (by decide) (fm_dec dtX11_chain 26 rfl) ?_
      refine c_badF1 rfl ?_
      refine pv_then1 ?_
      refine pv_if_eq (pc := 47) 52 (by decide) (fm_dec dtX11_chain 27 rfl) (fun _ => ?_) (fun hc47 => by exfalso; revert hc47; decide)
      refine pv_iconst (pc := 52) (v := 1) (by decide) (fm_dec dtX11_chain 30 rfl) ?_
      refine pv_iloadn (pc := 53) (n := 1) 1 rfl rfl (fm_dec dtX11_chain 31 rfl) ?_
      refine pv_ishl (pc := 54) (fm_dec dtX11_chain 32 rfl) ?_
      refine pv_istoren (pc := 55) (n := 3) 3 rfl (by decide) rfl (fm_dec dtX11_chain 33 rfl) ?_
      dsimp only [List.set_cons_zero, List.set_cons_succ]
      refine pv_iloadn (pc := 56) (n := 1) 1 rfl rfl (fm_dec dtX11_chain 34 rfl) ?_
      refine pv_istore (pc := 57) (i := 4) (by decide) rfl (fm_dec dtX11_chain 35 rfl) ?_
      dsimp only [List.set_cons_zero, List.set_cons_succ]
      have hi9 : i = nI k := nI_is hk (by omega)
      exact ch_loop hI0 (fun n => hq _ _ ⟨n, rfl⟩ hI0) _ _ _ (1 <<< k) k (by rw [hi9]; exact (one8 k (by omega)).1) (one8 k (by omega)).2 rfl hk (by omega)
    · refine pv_then1 ?_
      refine pv_if_ne (pc := 34) 41 (by decide) (fm_dec dtX11_chain 20 rfl) (fun hc34 => by exfalso; revert hc34; decide) (fun _ => ?_)
      refine pv_iconst (pc := 37) (v := 1) (by decide) (fm_dec dtX11_chain 21 rfl) ?_
      refine pv_goto (pc := 38) 42 (by decide) (fm_dec dtX11_chain 22 rfl) ?_
      refine pv_iconst (pc := 42) (v := 2) (by decide) (fm_dec dtX11_chain 24 rfl) ?_
      refine pv_iconst (pc := 43) (v := 1) (by decide) (fm_dec dtX11_chain 25 rfl) ?_
      refine pv_invV3 (k := 0) (d' := 0) (pc := 44) pcv_X11_177 (by decide) rfl (Nat.le_of_ble_eq_true rfl) (by decide) (fm_dec dtX11_chain 26 rfl) ?_
      refine c_badT1 rfl (by decide) ?_
      refine pv_then1 ?_
      refine pv_if_eq (pc := 47) 52 (by decide) (fm_dec dtX11_chain 27 rfl) (fun hc47 => by exfalso; revert hc47; decide) (fun _ => ?_)
      refine pv_iconst (pc := 50) (v := 0) (by decide) (fm_dec dtX11_chain 28 rfl) ?_
      exact pv_ireturn (pc := 51) rfl (fm_dec dtX11_chain 29 rfl) (hq _ _ ⟨_, rfl⟩ (hI0.p00 (Or.inr (Or.inr rfl))).p2)
  · refine pv_then1 ?_
    refine pv_if_ne (pc := 11) 18 (by decide) (fm_dec dtX11_chain 7 rfl) (fun hc11 => by exfalso; revert hc11; decide) (fun _ => ?_)
    refine pv_iconst (pc := 14) (v := 1) (by decide) (fm_dec dtX11_chain 8 rfl) ?_
    refine pv_goto (pc := 15) 19 (by decide) (fm_dec dtX11_chain 9 rfl) ?_
    refine pv_iconst (pc := 19) (v := 1) (by decide) (fm_dec dtX11_chain 11 rfl) ?_
    refine pv_iconst (pc := 20) (v := 0) (by decide) (fm_dec dtX11_chain 12 rfl) ?_
    refine pv_invV3 (k := 0) (d' := 0) (pc := 21) pcv_X11_177 (by decide) rfl (Nat.le_of_ble_eq_true rfl) (by decide) (fm_dec dtX11_chain 13 rfl) ?_
    refine c_badT0 rfl (by decide) ?_
    refine pv_then1 ?_
    refine pv_if_ne (pc := 24) 50 (by decide) (fm_dec dtX11_chain 14 rfl) (fun _ => ?_) (fun hc24 => by exfalso; revert hc24; decide)
    refine pv_iconst (pc := 50) (v := 0) (by decide) (fm_dec dtX11_chain 28 rfl) ?_
    exact pv_ireturn (pc := 51) rfl (fm_dec dtX11_chain 29 rfl) (hq _ _ ⟨_, rfl⟩ (hI0.p00 (Or.inr (Or.inl rfl))).p2)
theorem inv_top {k : Nat} (h : k = 3 ∨ (27 ≤ k ∧ k < 35) ∨ (43 ≤ k ∧ k < 67) ∨ (91 ≤ k ∧ k < 411) ∨ (417 ≤ k ∧ k < 503)) (j : Nat) : scAt (invM k) j = scTop := by
  by_cases h3 : k = 3
  · subst h3
    rfl
  · have e : invM k = [((-2147483648), 2147483647)] := by
      unfold invM
      rw [if_neg (show ¬ k = 999 by omega), if_neg (show ¬ k < 27 by omega)]
      by_cases h1 : k < 35
      · rw [if_pos h1]
      · rw [if_neg h1, if_neg (show ¬ k < 43 by omega)]
        by_cases h2 : k < 67
        · rw [if_pos h2]
        · rw [if_neg h2, if_neg (show ¬ k < 91 by omega)]
          by_cases h4 : k < 251
          · rw [if_pos h4]
          · rw [if_neg h4]
            by_cases h5 : k < 411
            · rw [if_pos h5]
            · rw [if_neg h5, if_neg (show ¬ k < 417 by omega)]
              by_cases h6 : k < 423
              · rw [if_pos h6]
              · rw [if_neg h6, if_pos (show k < 503 by omega)]
    rw [e]
    rfl
theorem inv_0 : ∀ j, j < 49 → ¬ (j = 0 ∨ j = 1 ∨ j = 3 ∨ j = 31 ∨ j = 32 ∨ j = 34) → scAt (invM 0) j = scTop := by decide
/-- the invariant, cell by cell: what stays, what is free, the rest by itself -/
theorem scInv.by {M M' : fmM} (hI : scInv Tm invM M) (h0 : ∀ j, (j = 0 ∨ j = 1 ∨ j = 3 ∨ j = 31 ∨ j = 32 ∨ j = 34) → (scAt (invM 0) j).1 ≤ (M'.1 0 j).toInt ∧ (M'.1 0 j).toInt ≤ (scAt (invM 0) j).2) (h : ∀ k j, k ≠ 0 → j < Tm.2.2.1 k → M'.1 k j = M.1 k j ∨ scAt (invM k) j = scTop ∨ ((scAt (invM k) j).1 ≤ (M'.1 k j).toInt ∧ (M'.1 k j).toInt ≤ (scAt (invM k) j).2)) (hJ : jmOk M'.1) : scInv Tm invM M' := by
  refine ⟨fun k j hj => ?_, fun _ => hJ⟩
  by_cases e : k = 0
  · subst e
    by_cases e2 : j = 0 ∨ j = 1 ∨ j = 3 ∨ j = 31 ∨ j = 32 ∨ j = 34
    · exact h0 j e2
    · rw [inv_0 j hj e2]
      exact scq_t _
  · rcases h k j e hj with h1 | h1 | h1
    · rw [h1]
      exact hI.1 k j hj
    · rw [h1]
      exact scq_t _
    · exact h1
theorem inv_fed {M : fmM} (hI : scInv Tm invM M) : rFed M := fun i hi => hI.1 1 i hi
theorem inv_rf {M : fmM} {w : Int32} {r : Nat} (hI : scInv Tm invM M) (hw : w = 0 ∨ w = 1 ∨ w = 2) : scInv Tm invM (rfM M w r) := ((hI.p00 (Or.inl rfl)).p00 hw).p2
theorem inv_c0 {M M' : fmM} (hI : scInv Tm invM M) {a : Int} (h00 : M'.1 0 0 = 0) (h01 : M'.1 0 1 = 0) (h03 : (M'.1 0 3).toInt = a) (ha : -1 ≤ a ∧ a ≤ 600) (h31 : M'.1 0 31 = M.1 0 31 ∨ (0 ≤ (M'.1 0 31).toInt ∧ (M'.1 0 31).toInt ≤ 6)) (h32 : M'.1 0 32 = M.1 0 32 ∨ M'.1 0 32 = 0) (h34 : M'.1 0 34 = M.1 0 34 ∨ M'.1 0 34 = 0) : ∀ j, (j = 0 ∨ j = 1 ∨ j = 3 ∨ j = 31 ∨ j = 32 ∨ j = 34) → (scAt (invM 0) j).1 ≤ (M'.1 0 j).toInt ∧ (M'.1 0 j).toInt ≤ (scAt (invM 0) j).2 := by
  intro j hj
  rcases hj with rfl | rfl | rfl | rfl | rfl | rfl
  · rw [h00]; decide
  · rw [h01]; decide
  · rw [h03]; exact ha
  · rcases h31 with h | h
    · rw [h]; exact hI.1 0 31 (by decide)
    · exact h
  · rcases h32 with h | h
    · rw [h]; exact hI.1 0 32 (by decide)
    · rw [h]; decide
  · rcases h34 with h | h
    · rw [h]; exact hI.1 0 34 (by decide)
    · rw [h]; decide
theorem jm_hours {M M' : fmM} (hI : scInv Tm invM M) (h4 : M'.1 4 0 = M.1 4 0) (h : ∀ k j, 35 ≤ k → k < 43 → M'.1 k j = M.1 k j) : ∀ i : Nat, i < 8 → (i : Int) < (M'.1 4 0).toInt → 1 ≤ (M'.1 (35 + i) 3).toInt := fun i hi hl => by
  rw [h _ _ (by omega) (by omega)]
  rw [h4] at hl
  exact (hI.2 rfl).2 i hi hl
theorem inv_law {M M' : fmM} {cs : tC} (hI : scInv Tm invM M) (hd : dpR 0 cs = some 1) (h : lawOk M M' cs) : scInv Tm invM M' := by
  obtain ⟨⟨h1, h2⟩, h3, h4, h5, h6, h7, h8, h9⟩ := h
  refine hI.by (inv_c0 hI h1 h2 (a := -1) (by rw [h3]; decide) (by decide) (Or.inl (h8 31 (by decide) (by decide) (by decide))) (Or.inl (h8 32 (by decide) (by decide) (by decide))) (Or.inl (h8 34 (by decide) (by decide) (by decide)))) (fun k j hk hj => ?_) ⟨⟨cs, h4, by omega, Or.inr hd, h6⟩, jm_hours hI (h7 4 0 (by decide) (by omega)) (fun k j a b => h7 k j (by omega) (by omega))⟩
  by_cases e : 91 ≤ k ∧ k < 411
  · exact Or.inr (Or.inl (inv_top (by omega) j))
  · exact Or.inl (h7 k j hk e)
theorem inv_lawB {M M' : fmM} {a : Nat} (hI : scInv Tm invM M) (h : lawBad M M' a) : scInv Tm invM M' := by
  obtain ⟨⟨h1, h2⟩, h3, h4, h5, h6, h7, h8, h9⟩ := h
  obtain ⟨⟨cs, j1, j2, j3, j4⟩, -⟩ := hI.2 rfl
  refine hI.by (inv_c0 hI h1 h2 (a := a) h3 (by omega) (Or.inl (h8 31 (by decide) (by decide) (by decide))) (Or.inl (h8 32 (by decide) (by decide) (by decide))) (Or.inl (h8 34 (by decide) (by decide) (by decide)))) (fun k j hk hj => ?_) ⟨⟨cs, (by rw [h5]; exact j1), j2, j3, fun i c hi => ?_⟩, jm_hours hI (h7 4 0 (by decide) (by omega)) (fun k j a b => h7 k j (by omega) (by omega))⟩
  · by_cases e : 91 ≤ k ∧ k < 411
    · exact Or.inr (Or.inl (inv_top (by omega) j))
    · exact Or.inl (h7 k j hk e)
  · have hl : i < cs.length := (List.getElem?_eq_some_iff.mp hi).1
    rw [h6 _ _ (by omega) (by omega), h6 _ _ (by omega) (by omega)]
    exact j4 i c hi
theorem t_law {M : fmM} {Q : fmR → fmM → Prop} {nn : Int32} (hI : scInv Tm invM M) (hq : ∀ (r : fmR) (M' : fmM), tI r → scInv Tm invM M' → Q r M') : pvGood Tm 27 qX11_law [.ref 0, .int nn] M Q := c_law (inv_fed hI) (fun _ => hq _ _ ⟨_, rfl⟩ (inv_rf hI (Or.inr (Or.inl rfl)))) (fun n0 cs M' _ _ _ _ hd h => hq _ _ ⟨_, rfl⟩ (inv_law hI hd h)) (fun n0 k a r M' _ _ _ _ _ _ h => hq _ _ ⟨_, rfl⟩ (inv_lawB hI h))
/-- the law's cells stay -/
theorem jm_law {M M' : fmM} (hI : scInv Tm invM M) (h17 : M'.1 0 17 = M.1 0 17) (h : ∀ k j, 91 ≤ k → k < 251 → M'.1 k j = M.1 k j) : ∃ cs : tC, (M'.1 0 17).toInt = (cs.length : Int) ∧ cs.length ≤ 160 ∧ (cs = [] ∨ dpR 0 cs = some 1) ∧ lwHas M'.1 91 cs := by
  obtain ⟨⟨cs, j1, j2, j3, j4⟩, -⟩ := hI.2 rfl
  refine ⟨cs, (by rw [h17]; exact j1), j2, j3, fun i c hi => ?_⟩
  have hl : i < cs.length := (List.getElem?_eq_some_iff.mp hi).1
  rw [h _ _ (by omega) (by omega), h _ _ (by omega) (by omega)]
  exact j4 i c hi
theorem st_k {M M1 : fmM} {tx : tX} {n k j : Nat} (h : stOk (fmI M 0 0 0) M1 tx n) (hk : k ≠ 0) : M1.1 k j = M.1 k j := by rw [h.2.2.2.2.2.2.1 k j hk, fmI_k _ _ hk]
theorem st_j {M M1 : fmM} {tx : tX} {n j : Nat} (h : stOk (fmI M 0 0 0) M1 tx n) (hj : 9 ≤ j) : M1.1 0 j = M.1 0 j := by rw [h.2.2.2.2.2.2.2.1 j (by omega) (by omega) (by omega) (by omega) (by omega) (by omega) (by omega), fmI_j _ _ (by omega)]
theorem st_0 {M M1 : fmM} {tx : tX} {n : Nat} (h : stOk (fmI M 0 0 0) M1 tx n) : M1.1 0 0 = 0 := by rw [h.2.2.2.2.2.2.2.1 0 (by decide) (by decide) (by decide) (by decide) (by decide) (by decide) (by decide), fmI_s]
theorem inv_page {M M1 M2 : fmM} {ls : tC} {tx : tX} {n : Nat} (hI : scInv Tm invM M) (hs : stOk (fmI M 0 0 0) M1 tx n) (h : pgEnd M1 M2 ls) : scInv Tm invM M2 := by
  obtain ⟨h1, h2, h3, h4, h5, h5b, h6, h7, h8⟩ := h
  have g : ∀ j, 9 ≤ j → j ≠ 31 → M2.1 0 j = M.1 0 j := fun j a b => (h7 j (by omega) (by omega) (by omega) (by omega) b).trans (st_j hs a)
  have gk : ∀ k j, k ≠ 0 → ¬ (411 ≤ k ∧ k < 423) → M2.1 k j = M.1 k j := fun k j a b => (h6 k j a b).trans (st_k hs a)
  refine hI.by (inv_c0 hI ((h7 0 (by decide) (by decide) (by decide) (by decide) (by decide)).trans (st_0 hs)) ((h7 1 (by decide) (by decide) (by decide) (by decide) (by decide)).trans hs.2.2.2.2.1) (a := -1) (by rw [h1]; decide) (by decide) (Or.inr (by omega)) (Or.inl (g 32 (by decide) (by decide))) (Or.inl (g 34 (by decide) (by decide)))) (fun k j hk hj => ?_) ⟨jm_law hI (g 17 (by decide) (by decide)) (fun k j a b => gk k j (by omega) (by omega)), jm_hours hI (gk 4 0 (by decide) (by omega)) (fun k j a b => gk k j (by omega) (by omega))⟩
  by_cases e : 417 ≤ k ∧ k < 423
  · exact Or.inr (Or.inl (inv_top (by omega) j))
  · by_cases e2 : 411 ≤ k ∧ k < 417
    · by_cases e3 : 411 + ls.length ≤ k
      · exact Or.inl ((h5b k j e3 e2.2).trans (st_k hs hk))
      · obtain ⟨i, rfl⟩ : ∃ i, k = 411 + i := ⟨k - 411, by omega⟩
        have hl : i < ls.length := by omega
        have hc := h4 i ls[i] (List.getElem?_eq_getElem hl)
        have hb := h5 ls[i] (List.getElem_mem hl)
        have hj2 : j < 2 := by
          rw [(rw_page.2.2.2 i (by omega)).2.2.2.2] at hj
          exact hj
        have hv : ∀ j, j < 2 → scAt (invM (411 + i)) j = if j = 0 then (0, 5) else (0, 1) := by
          rcases (show i = 0 ∨ i = 1 ∨ i = 2 ∨ i = 3 ∨ i = 4 ∨ i = 5 by omega) with rfl | rfl | rfl | rfl | rfl | rfl <;> decide
        refine Or.inr (Or.inr ?_)
        rw [hv j hj2]
        rcases (show j = 0 ∨ j = 1 by omega) with rfl | rfl
        · show 0 ≤ (M2.1 (411 + i) 0).toInt ∧ (M2.1 (411 + i) 0).toInt ≤ 5
          omega
        · show 0 ≤ (M2.1 (411 + i) 1).toInt ∧ (M2.1 (411 + i) 1).toInt ≤ 1
          omega
    · exact Or.inl (gk k j hk (by omega))
theorem inv_pageB {M M1 M2 : fmM} {tx : tX} {n a : Nat} (hI : scInv Tm invM M) (hs : stOk (fmI M 0 0 0) M1 tx n) (ha : a ≤ 600) (h : pgBad M1 M2 a) : scInv Tm invM M2 := by
  obtain ⟨h1, h2, h3, h6, h7, h8⟩ := h
  have g : ∀ j, 9 ≤ j → M2.1 0 j = M.1 0 j := fun j a => by
    by_cases b : j = 31
    · subst b
      exact h2.trans (st_j hs (by decide))
    · exact (h7 j (by omega) (by omega) (by omega) (by omega) b).trans (st_j hs a)
  have gk : ∀ k j, k ≠ 0 → ¬ (417 ≤ k ∧ k < 423) → M2.1 k j = M.1 k j := fun k j a b => by
    by_cases e : 411 ≤ k ∧ k < 417
    · exact (h3 k j e.1 e.2).trans (st_k hs a)
    · exact (h6 k j a (by omega)).trans (st_k hs a)
  refine hI.by (inv_c0 hI ((h7 0 (by decide) (by decide) (by decide) (by decide) (by decide)).trans (st_0 hs)) ((h7 1 (by decide) (by decide) (by decide) (by decide) (by decide)).trans hs.2.2.2.2.1) (a := a) h1 (by omega) (Or.inl (g 31 (by decide))) (Or.inl (g 32 (by decide))) (Or.inl (g 34 (by decide)))) (fun k j hk hj => ?_) ⟨jm_law hI (g 17 (by decide)) (fun k j a b => gk k j (by omega) (by omega)), jm_hours hI (gk 4 0 (by decide) (by omega)) (fun k j a b => gk k j (by omega) (by omega))⟩
  by_cases e : 417 ≤ k ∧ k < 423
  · exact Or.inr (Or.inl (inv_top (by omega) j))
  · exact Or.inl (gk k j hk e)
theorem t_page {M : fmM} {Q : fmR → fmM → Prop} {nn : Int32} (hI : scInv Tm invM M) (hq : ∀ (r : fmR) (M' : fmM), tI r → scInv Tm invM M' → Q r M') : pvGood Tm 3 qX11_page [.ref 0, .int nn] M Q := c_page (inv_fed hI) (fun _ => hq _ _ ⟨_, rfl⟩ (inv_rf hI (Or.inr (Or.inl rfl)))) (fun n0 M1 M2 ls r _ _ _ hs _ h _ => hq _ _ ⟨_, rfl⟩ (inv_page hI hs h)) (fun n0 k a M1 M2 r _ h60 _ hs _ hka h _ => hq _ _ ⟨_, rfl⟩ (inv_pageB hI hs (by omega) h))
theorem inv_r35 : ∀ i, i < 8 → ∀ j, j < 6 → scAt (invM (35 + i)) j = [(0, 110), (0, 64), (0, 99), (0, 9), (-1, 40), (-1, 7)].getD j scTop := by decide
theorem inv_r67 : ∀ i, i < 24 → ∀ j, j < 3 → scAt (invM (67 + i)) j = [(0, 7), (0, 5), (0, 60)].getD j scTop := by decide
theorem inv_7 : ∀ i, i < 8 → scAt (invM 7) (1 + i) = (-1000, 200) := by decide
theorem inv_drawer {M M1 M2 : fmM} {D : dD} {tx : tX} {n : Nat} (hI : scInv Tm invM M) (hs : stOk (fmI M 0 0 0) M1 tx n) (hD : dOk D) (h : dwEnd M1 M2 D) : scInv Tm invM M2 := by
  obtain ⟨h3, Mx, hF, ⟨a1, a2, a3, a4, a5⟩, ⟨b1, b2, b3⟩, ⟨c1, c2, c3, c4, c5⟩, d1, d2, d3, d4⟩ := h
  obtain ⟨D1, D2, D3, D4, D5, D6, D7, D8⟩ := hD
  have g0 : ∀ j, j < 2 → M2.1 0 j = M1.1 0 j := fun j hj => by
    rw [d2 j (by omega) (by omega) (by omega) (by omega) (by omega), fmI_j _ _ (by omega)]
    exact hF.2.1 j (by omega) (by omega) (by omega) (by omega)
  have gk : ∀ k j, k ≠ 0 → k ≠ 3 → k ≠ 4 → k ≠ 7 → ¬ (27 ≤ k ∧ k < 91) → M2.1 k j = M.1 k j := fun k j x1 x2 x3 x4 x5 => by
    rw [d1 k j x1 x3 x4 (by omega) (by omega), fmI_k _ _ x1, hF.1 k j x1 x2 (by omega) (by omega)]
    exact st_k hs x1
  have gr : ∀ k j, (35 + D.1 ≤ k ∧ k < 43) ∨ (67 + D.2.2.1 ≤ k ∧ k < 91) → M2.1 k j = M.1 k j := fun k j x => by
    rw [d3 k j x, fmI_k _ _ (by omega), hF.1 k j (by omega) (by omega) (by omega) (by omega)]
    exact st_k hs (by omega)
  refine hI.by (inv_c0 hI ((g0 0 (by decide)).trans (st_0 hs)) ((g0 1 (by decide)).trans hs.2.2.2.2.1) (a := -1) (by rw [h3]; decide) (by decide) (Or.inr (by rw [c2]; decide)) (Or.inr c3) (Or.inr c5)) (fun k j hk hj => ?_) ⟨⟨[], (by rw [c1]; decide), by decide, Or.inl rfl, fun i c hi => by cases hi⟩, fun i hi hl => ?_⟩
  · by_cases e3 : k = 3 ∨ (27 ≤ k ∧ k < 35) ∨ (43 ≤ k ∧ k < 67)
    · exact Or.inr (Or.inl (inv_top (by omega) j))
    · by_cases e4 : k = 4
      · subst e4
        have hj : j < 6 := hj
        refine Or.inr (Or.inr ?_)
        rcases (show j = 0 ∨ j = 1 ∨ j = 2 ∨ j = 3 ∨ j = 4 ∨ j = 5 by omega) with rfl | rfl | rfl | rfl | rfl | rfl
        · rw [a1]; exact ⟨by show (0 : Int) ≤ _; omega, by show _ ≤ (8 : Int); omega⟩
        · rw [a2]; exact ⟨by show (0 : Int) ≤ _; omega, by show _ ≤ (24 : Int); omega⟩
        · rw [a3 2 (by decide) (by decide)]; exact D5
        · rw [a3 3 (by decide) (by decide)]; exact D6
        · rw [a3 4 (by decide) (by decide)]; exact D7
        · rw [a3 5 (by decide) (by decide)]; exact D8
      · by_cases e7 : k = 7
        · subst e7
          have hj : j < 14 := hj
          by_cases e8 : 1 ≤ j ∧ j < 9
          · obtain ⟨i, rfl⟩ : ∃ i, j = 1 + i := ⟨j - 1, by omega⟩
            refine Or.inr (Or.inr ?_)
            rw [inv_7 i (by omega), b1 i (by omega)]
            split
            · rename_i hx
              have := (D3 i hx.1).2.2.2.2.1
              exact ⟨by show (-1000 : Int) ≤ _; omega, by show _ ≤ (200 : Int); omega⟩
            · decide
          · refine Or.inr (Or.inr ?_)
            by_cases e9 : j = 9
            · subst e9
              rw [b2]
              exact ⟨by show (0 : Int) ≤ _; omega, by show _ ≤ (12 : Int); omega⟩
            · rw [b3 j (by omega)]
              rcases (show j = 0 ∨ j = 10 ∨ j = 11 ∨ j = 12 ∨ j = 13 by omega) with rfl | rfl | rfl | rfl | rfl <;> decide
        · by_cases e35 : 35 ≤ k ∧ k < 43
          · by_cases el : 35 + D.1 ≤ k
            · exact Or.inl (gr k j (Or.inl ⟨el, e35.2⟩))
            · obtain ⟨i, rfl⟩ : ∃ i, k = 35 + i := ⟨k - 35, by omega⟩
              have hj6 : j < 6 := by
                rw [(rw_life.2.2.2 i (by omega)).2.2.2.2] at hj
                exact hj
              have hd := D3 i (by omega)
              refine Or.inr (Or.inr ?_)
              rw [inv_r35 i (by omega) j hj6, a4 i (by omega) j hj6]
              rcases (show j = 0 ∨ j = 1 ∨ j = 2 ∨ j = 3 ∨ j = 4 ∨ j = 5 by omega) with rfl | rfl | rfl | rfl | rfl | rfl
              · exact hd.1
              · exact hd.2.1
              · exact ⟨by show (0 : Int) ≤ _; omega, hd.2.2.1.2⟩
              · exact ⟨by show (0 : Int) ≤ _; omega, hd.2.2.2.1.2⟩
              · exact hd.2.2.2.2.1
              · exact ⟨hd.2.2.2.2.2.1, by show _ ≤ (7 : Int); omega⟩
          · by_cases e67 : 67 ≤ k ∧ k < 91
            · by_cases el : 67 + D.2.2.1 ≤ k
              · exact Or.inl (gr k j (Or.inr ⟨el, e67.2⟩))
              · obtain ⟨i, rfl⟩ : ∃ i, k = 67 + i := ⟨k - 67, by omega⟩
                have hj3 : j < 3 := by
                  rw [(rw_fact.2.2.2 i (by omega)).2.2.2.2] at hj
                  exact hj
                have hd := D4 i (by omega)
                refine Or.inr (Or.inr ?_)
                rw [inv_r67 i (by omega) j hj3, a5 i (by omega) j hj3]
                rcases (show j = 0 ∨ j = 1 ∨ j = 2 by omega) with rfl | rfl | rfl
                · exact ⟨hd.1.1, by show _ ≤ (7 : Int); omega⟩
                · exact hd.2.1
                · exact ⟨by show (0 : Int) ≤ _; omega, hd.2.2.2⟩
            · exact Or.inl (gk k j hk (by omega) e4 e7 (by omega))
  · rw [a1] at hl
    rw [a4 i (by omega) 3 (by decide)]
    exact (D3 i (by omega)).2.2.2.1.1
theorem inv_drawerB {M M1 M2 : fmM} {tx : tX} {n a : Nat} (hI : scInv Tm invM M) (hs : stOk (fmI M 0 0 0) M1 tx n) (ha : a ≤ 600) (h : dwBad M1 M2 a) : scInv Tm invM M2 := by
  obtain ⟨h1, Mx, hF, rfl⟩ := h
  have g : ∀ j, j ≠ 3 → j ≠ 4 → j ≠ 5 → j ≠ 6 → j ≠ 7 → (fmI Mx 0 3 (Mx.1 0 6)).1 0 j = M1.1 0 j := fun j x1 x2 x3 x4 x5 => by
    rw [fmI_j _ _ x1]
    exact hF.2.1 j x2 x3 x4 x5
  have gk : ∀ k j, k ≠ 0 → k ≠ 3 → ¬ (27 ≤ k ∧ k < 35) → ¬ (43 ≤ k ∧ k < 67) → (fmI Mx 0 3 (Mx.1 0 6)).1 k j = M.1 k j := fun k j x1 x2 x3 x4 => by
    rw [fmI_k _ _ x1, hF.1 k j x1 x2 x3 x4]
    exact st_k hs x1
  have gj : ∀ j, 9 ≤ j → (fmI Mx 0 3 (Mx.1 0 6)).1 0 j = M.1 0 j := fun j x => (g j (by omega) (by omega) (by omega) (by omega) (by omega)).trans (st_j hs x)
  refine hI.by (inv_c0 hI ((g 0 (by decide) (by decide) (by decide) (by decide) (by decide)).trans (st_0 hs)) ((g 1 (by decide) (by decide) (by decide) (by decide) (by decide)).trans hs.2.2.2.2.1) (a := a) h1 (by omega) (Or.inl (gj 31 (by decide))) (Or.inl (gj 32 (by decide))) (Or.inl (gj 34 (by decide)))) (fun k j hk hj => ?_) ⟨jm_law hI (gj 17 (by decide)) (fun k j a b => gk k j (by omega) (by omega) (by omega) (by omega)), jm_hours hI (gk 4 0 (by decide) (by decide) (by omega) (by omega)) (fun k j a b => gk k j (by omega) (by omega) (by omega) (by omega))⟩
  by_cases e : k = 3 ∨ (27 ≤ k ∧ k < 35) ∨ (43 ≤ k ∧ k < 67)
  · exact Or.inr (Or.inl (inv_top (by omega) j))
  · exact Or.inl (gk k j hk (by omega) (by omega) (by omega))
theorem t_drawer {M : fmM} {Q : fmR → fmM → Prop} {nn : Int32} (hI : scInv Tm invM M) (hq : ∀ (r : fmR) (M' : fmM), tI r → scInv Tm invM M' → Q r M') : pvGood Tm 6 qX11_drawer [.ref 0, .int nn] M Q := by
  have h6 : (M.1 0 1).toInt ≤ 600 := (hI.1 0 1 (by decide)).2
  exact c_drawer (inv_fed hI) h6 (fun _ => hq _ _ ⟨_, rfl⟩ (inv_rf hI (Or.inr (Or.inl rfl)))) (fun n0 M1 M2 D r _ _ hs _ hD h _ => hq _ _ ⟨_, rfl⟩ (inv_drawer hI hs hD h)) (fun n0 k a M1 M2 r _ hn hs _ hka h _ => hq _ _ ⟨_, rfl⟩ (inv_drawerB hI hs (by omega) h))
end
-- P 12r
section
-- WORKS AS TEXTS
/-- steps, one behind the other: kind (0 write, 1 renew, 2 die, 3 week, 4 again), number, where the next one stands -/
abbrev tS : Type := List (Nat × Nat × Nat)
def stK (w : List Int) : Option Nat := if w = [119, 114, 105, 116, 101] then some 0 else if w = [114, 101, 110, 101, 119] then some 1 else if w = [100, 105, 101] then some 2 else if w = [119, 101, 101, 107] then some 3 else if w = [97, 103, 97, 105, 110] then some 4 else none
def spSi (tx : tX) (l k b q : Nat) : tR tS := spBind (spNum tx 0 ((l : Int) - 1) q) fun v q => spBind (spSign tx 59 q) fun _ q => .inr ([(k, v, b + 1)], q)
def spWk (tx : tX) (b q : Nat) : tR tS := spBind (spSign tx 59 q) fun _ q => .inr ([(3, 0, b + 1)], q)
def spAg (tx : tX) (rc : Nat → tR tS) (b q : Nat) : tR tS := spBind (spNum tx 0 20 q) fun v q => spBind (spSign tx 91 q) fun _ q => spBind (rc (sk tx q)) fun ss q => spBind (spSign tx 93 q) fun _ q => spBind (spSign tx 59 q) fun _ q => .inr ((4, v, b + 1 + ss.length) :: ss, q)
def spOneS (tx : tX) (l : Nat) (rc : Nat → tR tS) (o b p : Nat) : tR tS := match stK (wd tx (sk tx p)) with
  | none => .inl (1, sk tx p)
  | some k => if k = 4 then (if o = 6 then .inl (3, sk tx p) else spAg tx rc b (sp tW tx (sk tx p))) else if k = 3 then spWk tx b (sp tW tx (sk tx p)) else spSi tx l k b (sp tW tx (sk tx p))
/-- mode 0: one step; mode 1: steps up to a closing bracket -/
def spSt (tx : tX) (l : Nat) : Nat → Nat → Nat → Nat → Nat → tR tS
  | 0, _, _, _, _ => .inl (9, 0)
  | f + 1, 0, o, b, p => spOneS tx l (fun q => spSt tx l f 1 (o + 1) (b + 1) q) o b p
  | f + 1, _ + 1, o, b, p => if tx p = 93 then .inr ([], p) else spBind (spSt tx l f 0 o b p) fun ss q => spBind (spSt tx l f 1 o (b + ss.length) (sk tx q)) fun ts q => .inr (ss ++ ts, q)
def wkL (tx : tX) (n l : Nat) : Nat → Nat → Nat → (Nat × Nat) ⊕ tS
  | 0, _, _ => .inl (9, 0)
  | f + 1, b, p => if n ≤ p then .inr [] else match spSt tx l 400 0 0 b p with
    | .inl e => .inl e
    | .inr (ss, q) => match wkL tx n l f (b + ss.length) (sk tx q) with
      | .inl e => .inl e
      | .inr ts => .inr (ss ++ ts)
def spWork (tx : tX) (n l : Nat) : (Nat × Nat) ⊕ tS := wkL tx n l 700 0 (sk tx 0)
theorem stK_ne {w : List Int} {k : Nat} (h : stK w = some k) : 0 < w.length ∧ k ≤ 4 := by
  unfold stK at h
  repeat' split at h
  all_goals first | (rename_i e; subst e; injection h with h; subst h; exact ⟨by decide, by decide⟩) | (rename_i e _; cases h) | cases h
/-- what is read is more than twice as long as what it says -/
theorem spSt_len {tx : tX} {n l : Nat} (ht : tOk tx n) : ∀ (f md o b p : Nat) (ss : tS) (q : Nat), p ≤ n → spSt tx l f md o b p = .inr (ss, q) → p + 2 * ss.length ≤ q ∧ q ≤ n ∧ (md = 0 → 1 ≤ ss.length) := by
  intro f
  induction f with
  | zero => intro md o b p ss q _ h; cases md <;> cases h
  | succ f ih =>
    intro md o b p ss q hp h
    cases md with
    | zero =>
      have s1 : p ≤ sk tx p := sp_ge p
      have s2 : sk tx p ≤ n := sp_le tB_1 ht hp
      have w2 := sp_le (p := sk tx p) tW_1 ht s2
      have h : spOneS tx l (fun q => spSt tx l f 1 (o + 1) (b + 1) q) o b p = .inr (ss, q) := h
      unfold spOneS at h
      split at h
      · cases h
      · rename_i k hk
        have hw := (stK_ne hk).1
        rw [wd_len] at hw
        split at h
        · split at h
          · cases h
          · obtain ⟨v, q1, e1, h⟩ := spBind_ok h
            obtain ⟨u2, q2, e2, h⟩ := spBind_ok h
            obtain ⟨s3, q3, e3, h⟩ := spBind_ok h
            obtain ⟨u4, q4, e4, h⟩ := spBind_ok h
            obtain ⟨u5, q5, e5, h⟩ := spBind_ok h
            cases h
            have a1 := spNum_ok ht w2 e1
            have a2 := spSign_ok ht a1.2.1 (by omega) e2
            have g1 : q2 ≤ sk tx q2 := sp_ge q2
            have g2 : sk tx q2 ≤ n := sp_le tB_1 ht a2.2
            have a3 := ih _ _ _ _ _ _ g2 e3
            have a4 := spSign_ok ht a3.2.1 (by omega) e4
            have a5 := spSign_ok ht a4.2 (by omega) e5
            refine ⟨?_, a5.2, fun _ => ?_⟩
            · rw [List.length_cons]; omega
            · rw [List.length_cons]; omega
        · split at h
          · obtain ⟨u5, q5, e5, h⟩ := spBind_ok h
            cases h
            have a5 := spSign_ok ht w2 (by omega) e5
            exact ⟨by show p + 2 * 1 ≤ q; omega, a5.2, fun _ => Nat.le_refl 1⟩
          · obtain ⟨v, q1, e1, h⟩ := spBind_ok h
            obtain ⟨u5, q5, e5, h⟩ := spBind_ok h
            cases h
            have a1 := spNum_ok ht w2 e1
            have a5 := spSign_ok ht a1.2.1 (by omega) e5
            exact ⟨by show p + 2 * 1 ≤ q; omega, a5.2, fun _ => Nat.le_refl 1⟩
    | succ md =>
      have h : (if tx p = 93 then .inr ([], p) else spBind (spSt tx l f 0 o b p) fun ss q => spBind (spSt tx l f 1 o (b + ss.length) (sk tx q)) fun ts q => .inr (ss ++ ts, q)) = (.inr (ss, q) : tR tS) := h
      split at h
      · cases h
        exact ⟨Nat.le_refl _, hp, fun h => absurd h (by omega)⟩
      · obtain ⟨s1, q1, e1, h⟩ := spBind_ok h
        obtain ⟨s2, q2, e2, h⟩ := spBind_ok h
        cases h
        have a1 := ih _ _ _ _ _ _ hp e1
        have g1 : q1 ≤ sk tx q1 := sp_ge q1
        have g2 : sk tx q1 ≤ n := sp_le tB_1 ht a1.2.1
        have a2 := ih _ _ _ _ _ _ g2 e2
        refine ⟨?_, a2.2.1, fun h => absurd h (by omega)⟩
        rw [List.length_append]
        omega
theorem spNum_9 {tx : tX} {n p : Nat} {lo hi : Int} (ht : tOk tx n) (hp : p ≤ n) : ∀ a, ¬ spNum tx lo hi p = .inl (9, a) := fun a h => by
  have := spNum_bad ht hp h
  omega
theorem spSign_9 {tx : tX} {n p : Nat} {c : Int} (ht : tOk tx n) (hp : p ≤ n) : ∀ a, ¬ spSign tx c p = .inl (9, a) := fun a h => by
  have := spSign_bad ht hp h
  omega
theorem spSt_bad {tx : tX} {n l : Nat} (ht : tOk tx n) : ∀ (f md o b p : Nat) (e : Nat × Nat), p ≤ n → 2 * (n - p) + 1 + min md 1 ≤ f → spSt tx l f md o b p = .inl e → (1 ≤ e.1 ∧ e.1 ≤ 3) ∧ e.2 ≤ n := by
  intro f
  induction f with
  | zero => intro md o b p e _ h; omega
  | succ f ih =>
    intro md o b p e hp hf h
    cases md with
    | zero =>
      have s1 : p ≤ sk tx p := sp_ge p
      have s2 : sk tx p ≤ n := sp_le tB_1 ht hp
      have w2 := sp_le (p := sk tx p) tW_1 ht s2
      have h : spOneS tx l (fun q => spSt tx l f 1 (o + 1) (b + 1) q) o b p = .inl e := h
      unfold spOneS at h
      split at h
      · cases h
        exact ⟨⟨Nat.le_refl 1, (show 1 ≤ 3 by decide)⟩, s2⟩
      · rename_i k hk
        have hw := (stK_ne hk).1
        rw [wd_len] at hw
        split at h
        · split at h
          · cases h
            exact ⟨⟨(show 1 ≤ 3 by decide), Nat.le_refl 3⟩, s2⟩
          · refine spBind_b h (fun e h => spNum_b ht w2 h) (fun v q1 e1 h => ?_)
            have a1 := spNum_ok ht w2 e1
            refine spBind_b h (fun e h => spSign_b ht a1.2.1 h) (fun v q2 e2 h => ?_)
            have a2 := spSign_ok ht a1.2.1 (by omega) e2
            have g1 : q2 ≤ sk tx q2 := sp_ge q2
            have g2 : sk tx q2 ≤ n := sp_le tB_1 ht a2.2
            refine spBind_b h (fun e h => ih _ _ _ _ e g2 (by omega) h) (fun v q3 e3 h => ?_)
            have a3 := spSt_len ht _ _ _ _ _ _ _ g2 e3
            refine spBind_b h (fun e h => spSign_b ht a3.2.1 h) (fun v q4 e4 h => ?_)
            have a4 := spSign_ok ht a3.2.1 (by omega) e4
            exact spBind_b h (fun e h => spSign_b ht a4.2 h) (fun v q5 e5 h => (by cases h))
        · split at h
          · exact spBind_b h (fun e h => spSign_b ht w2 h) (fun v q5 e5 h => (by cases h))
          · refine spBind_b h (fun e h => spNum_b ht w2 h) (fun v q1 e1 h => ?_)
            have a1 := spNum_ok ht w2 e1
            exact spBind_b h (fun e h => spSign_b ht a1.2.1 h) (fun v q5 e5 h => (by cases h))
    | succ md =>
      have h : (if tx p = 93 then .inr ([], p) else spBind (spSt tx l f 0 o b p) fun ss q => spBind (spSt tx l f 1 o (b + ss.length) (sk tx q)) fun ts q => .inr (ss ++ ts, q)) = (.inl e : tR tS) := h
      split at h
      · cases h
      · refine spBind_b h (fun e h => ih _ _ _ _ e hp (by omega) h) (fun s1 q1 e1 h => ?_)
        have a1 := spSt_len ht _ _ _ _ _ _ _ hp e1
        have a0 := a1.2.2 rfl
        have g1 : q1 ≤ sk tx q1 := sp_ge q1
        have g2 : sk tx q1 ≤ n := sp_le tB_1 ht a1.2.1
        exact spBind_b h (fun e h => ih _ _ _ _ e g2 (by omega) h) (fun s2 q2 e2 h => (by cases h))
theorem wkL_0 {tx : tX} {n l f b p : Nat} (h : n ≤ p) : wkL tx n l (f + 1) b p = .inr [] := by simp only [wkL]; rw [if_pos h]
theorem wkL_1 {tx : tX} {n l f b p : Nat} {e : Nat × Nat} (h : ¬ n ≤ p) (h1 : spSt tx l 400 0 0 b p = .inl e) : wkL tx n l (f + 1) b p = .inl e := by simp only [wkL]; rw [if_neg h, h1]
theorem wkL_2 {tx : tX} {n l f b p q : Nat} {ss : tS} {e : Nat × Nat} (h : ¬ n ≤ p) (h1 : spSt tx l 400 0 0 b p = .inr (ss, q)) (h2 : wkL tx n l f (b + ss.length) (sk tx q) = .inl e) : wkL tx n l (f + 1) b p = .inl e := by simp only [wkL]; rw [if_neg h, h1]; simp only; rw [h2]
theorem wkL_3 {tx : tX} {n l f b p q : Nat} {ss ts : tS} (h : ¬ n ≤ p) (h1 : spSt tx l 400 0 0 b p = .inr (ss, q)) (h2 : wkL tx n l f (b + ss.length) (sk tx q) = .inr ts) : wkL tx n l (f + 1) b p = .inr (ss ++ ts) := by simp only [wkL]; rw [if_neg h, h1]; simp only; rw [h2]
theorem wkL_bad {tx : tX} {n l : Nat} (ht : tOk tx n) (hn : n ≤ 150) : ∀ (f b p : Nat) (e : Nat × Nat), p ≤ n → n - p < f → wkL tx n l f b p = .inl e → (1 ≤ e.1 ∧ e.1 ≤ 3) ∧ e.2 ≤ n
  | 0, _, _, _, _, h, _ => by omega
  | f + 1, b, p, e, hp, hf, h => by
    by_cases hn2 : n ≤ p
    · rw [wkL_0 hn2] at h; cases h
    · cases hc : spSt tx l 400 0 0 b p with
      | inl e' =>
        rw [wkL_1 hn2 hc] at h
        cases h
        exact spSt_bad ht _ _ _ _ _ _ hp (by omega) hc
      | inr r =>
        obtain ⟨ss, q⟩ := r
        have a1 := spSt_len ht _ _ _ _ _ _ _ hp hc
        have a0 := a1.2.2 rfl
        have s1 := sp_ge (P := tB) (tx := tx) q
        have s2 := sp_le tB_1 ht a1.2.1
        cases h2 : wkL tx n l f (b + ss.length) (sk tx q) with
        | inl e' =>
          rw [wkL_2 hn2 hc h2] at h
          cases h
          exact wkL_bad ht hn f _ _ _ s2 (by omega) h2
        | inr ts =>
          rw [wkL_3 hn2 hc h2] at h
          cases h
/-- a step that can be, of l lives, at its place, of all n -/
def sOk (l b n : Nat) (s : Nat × Nat × Nat) : Prop := s.1 ≤ 4 ∧ (s.1 < 3 → s.2.1 < l) ∧ (s.1 = 4 → s.2.1 ≤ 20) ∧ b < s.2.2 ∧ s.2.2 ≤ n
def ssOk (l b : Nat) (ss : tS) : Prop := ∀ i s, ss[i]? = some s → sOk l (b + i) (b + ss.length) s
theorem sOk.up {l b n n' : Nat} {s : Nat × Nat × Nat} (h : sOk l b n s) (hn : n ≤ n') : sOk l b n' s := ⟨h.1, h.2.1, h.2.2.1, h.2.2.2.1, by have := h.2.2.2.2; omega⟩
theorem ssOk.nil {l b : Nat} : ssOk l b [] := fun i s h => by cases h
theorem ssOk.one {l b k v : Nat} (hk : k ≤ 4) (h1 : k < 3 → v < l) (h2 : k = 4 → v ≤ 20) : ssOk l b [(k, v, b + 1)] := fun i s h => by
  cases i with
  | zero =>
    cases h
    exact ⟨hk, h1, h2, Nat.lt_succ_self _, Nat.le_refl _⟩
  | succ i => cases h
theorem ssOk.cons {l b v : Nat} {ss : tS} (h : ssOk l (b + 1) ss) (hv : v ≤ 20) : ssOk l b ((4, v, b + 1 + ss.length) :: ss) := fun i s hi => by
  rw [List.length_cons]
  cases i with
  | zero =>
    cases hi
    exact ⟨Nat.le_refl 4, fun h => absurd h (by omega), fun _ => hv, by show b + 0 < b + 1 + ss.length; omega, by show b + 1 + ss.length ≤ b + (ss.length + 1); omega⟩
  | succ i =>
    have h9 := h i s hi
    rw [show b + (i + 1) = b + 1 + i by omega]
    exact h9.up (by omega)
theorem ssOk.app {l b : Nat} {ss ts : tS} (h1 : ssOk l b ss) (h2 : ssOk l (b + ss.length) ts) : ssOk l b (ss ++ ts) := fun i s hi => by
  rw [List.length_append]
  by_cases e : i < ss.length
  · rw [List.getElem?_append_left e] at hi
    exact (h1 i s hi).up (by omega)
  · rw [List.getElem?_append_right (by omega)] at hi
    have h9 := h2 (i - ss.length) s hi
    rw [show b + ss.length + (i - ss.length) = b + i by omega] at h9
    exact h9.up (by omega)
theorem spSt_ok {tx : tX} {n l : Nat} (ht : tOk tx n) : ∀ (f md o b p : Nat) (ss : tS) (q : Nat), p ≤ n → spSt tx l f md o b p = .inr (ss, q) → ssOk l b ss := by
  intro f
  induction f with
  | zero => intro md o b p ss q _ h; cases md <;> cases h
  | succ f ih =>
    intro md o b p ss q hp h
    cases md with
    | zero =>
      have s2 : sk tx p ≤ n := sp_le tB_1 ht hp
      have w2 := sp_le (p := sk tx p) tW_1 ht s2
      have h : spOneS tx l (fun q => spSt tx l f 1 (o + 1) (b + 1) q) o b p = .inr (ss, q) := h
      unfold spOneS at h
      split at h
      · cases h
      · rename_i k hk
        have hk4 := (stK_ne hk).2
        split at h
        · split at h
          · cases h
          · obtain ⟨v, q1, e1, h⟩ := spBind_ok h
            obtain ⟨u2, q2, e2, h⟩ := spBind_ok h
            obtain ⟨s3, q3, e3, h⟩ := spBind_ok h
            obtain ⟨u4, q4, e4, h⟩ := spBind_ok h
            obtain ⟨u5, q5, e5, h⟩ := spBind_ok h
            cases h
            have a1 := spNum_ok ht w2 e1
            have a2 := spSign_ok ht a1.2.1 (by omega) e2
            have g2 : sk tx q2 ≤ n := sp_le tB_1 ht a2.2
            exact (ih _ _ _ _ _ _ g2 e3).cons (by omega)
        · split at h
          · obtain ⟨u5, q5, e5, h⟩ := spBind_ok h
            cases h
            exact ssOk.one (by decide) (fun h => absurd h (by decide)) (fun h => absurd h (by decide))
          · obtain ⟨v, q1, e1, h⟩ := spBind_ok h
            obtain ⟨u5, q5, e5, h⟩ := spBind_ok h
            cases h
            have a1 := spNum_ok ht w2 e1
            exact ssOk.one hk4 (fun _ => by omega) (fun h => absurd h (by assumption))
    | succ md =>
      have h : (if tx p = 93 then .inr ([], p) else spBind (spSt tx l f 0 o b p) fun ss q => spBind (spSt tx l f 1 o (b + ss.length) (sk tx q)) fun ts q => .inr (ss ++ ts, q)) = (.inr (ss, q) : tR tS) := h
      split at h
      · cases h
        exact ssOk.nil
      · obtain ⟨s1, q1, e1, h⟩ := spBind_ok h
        obtain ⟨s2, q2, e2, h⟩ := spBind_ok h
        cases h
        have a1 := spSt_len ht _ _ _ _ _ _ _ hp e1
        have g2 : sk tx q1 ≤ n := sp_le tB_1 ht a1.2.1
        exact (ih _ _ _ _ _ _ hp e1).app (ih _ _ _ _ _ _ g2 e2)
theorem wkL_ok {tx : tX} {n l : Nat} (ht : tOk tx n) : ∀ (f b p : Nat) (ss : tS), p ≤ n → wkL tx n l f b p = .inr ss → ssOk l b ss ∧ p + 2 * ss.length ≤ n
  | 0, _, _, _, _, h => by cases h
  | f + 1, b, p, ss, hp, h => by
    by_cases hn2 : n ≤ p
    · rw [wkL_0 hn2] at h
      cases h
      exact ⟨ssOk.nil, hp⟩
    · cases hc : spSt tx l 400 0 0 b p with
      | inl e' => rw [wkL_1 hn2 hc] at h; cases h
      | inr r =>
        obtain ⟨s1, q⟩ := r
        have a1 := spSt_len ht _ _ _ _ _ _ _ hp hc
        have g1 := sp_ge (P := tB) (tx := tx) q
        have g2 := sp_le tB_1 ht a1.2.1
        cases h2 : wkL tx n l f (b + s1.length) (sk tx q) with
        | inl e' => rw [wkL_2 hn2 hc h2] at h; cases h
        | inr ts =>
          rw [wkL_3 hn2 hc h2] at h
          cases h
          have a2 := wkL_ok ht f _ _ _ g2 h2
          refine ⟨(spSt_ok ht _ _ _ _ _ _ _ hp hc).app a2.1, ?_⟩
          rw [List.length_append]
          have a3 := a2.2
          have a4 : q ≤ sk tx q := g1
          omega
end
-- P 12t
section
-- THE REFERENCE READS WORKS
def stRep (M : fmM) (b : Nat) (ss : tS) : Prop := ∀ i s, ss[i]? = some s → (M.1 (423 + b + i) 0).toInt = s.1 ∧ (s.1 ≠ 3 → (M.1 (423 + b + i) 1).toInt = s.2.1) ∧ (M.1 (423 + b + i) 2).toInt = s.2.2
def srFr (b : Nat) (M M' : fmM) : Prop := (∀ k j, k ≠ 0 → ¬ (423 + b ≤ k ∧ k < 503) → M'.1 k j = M.1 k j) ∧ (∀ j, j ≠ 4 → j ≠ 5 → j ≠ 6 → j ≠ 8 → j ≠ 26 → M'.1 0 j = M.1 0 j) ∧ M'.2 = M.2
def srOk (M M' : fmM) (tx : tX) (n q b : Nat) (ss : tS) : Prop := rS M' tx n q ∧ M'.1 0 5 = 0 ∧ M'.1 0 8 = M.1 0 8 ∧ (M'.1 0 26).toInt = ((b + ss.length : Nat) : Int) ∧ stRep M' b ss ∧ srFr b M M'
def srBad (M M' : fmM) (tx : tX) (n k a b : Nat) : Prop := (∃ q, rS M' tx n q) ∧ (M'.1 0 5).toInt = k ∧ (M'.1 0 6).toInt = a ∧ k ≠ 0 ∧ srFr b M M'
def srPre (M : fmM) (tx : tX) (n p o b l : Nat) : Prop := rS M tx n p ∧ M.1 0 5 = 0 ∧ (M.1 0 8).toInt = o ∧ o ≤ 6 ∧ (M.1 0 26).toInt = b ∧ 2 * b ≤ p ∧ n ≤ 150 ∧ (M.1 4 0).toInt = l ∧ l ≤ 8
theorem srFr.refl (b : Nat) (M : fmM) : srFr b M M := ⟨fun _ _ _ _ => rfl, fun _ _ _ _ _ _ => rfl, rfl⟩
theorem srFr.rd {b : Nat} {M M1 M2 : fmM} (h : srFr b M M1) (h' : rdFr M1 M2) : srFr b M M2 := ⟨fun k j a c => (h'.1 k j a).trans (h.1 k j a c), fun j a b c d e => (h'.2.1 j a b c).trans (h.2.1 j a b c d e), h'.2.2.trans h.2.2⟩
theorem srFr.trans {b b' : Nat} {M M1 M2 : fmM} (h : srFr b M M1) (h' : srFr b' M1 M2) (hb : b ≤ b') : srFr b M M2 := ⟨fun k j a c => (h'.1 k j a (by omega)).trans (h.1 k j a c), fun j a b c d e => (h'.2.1 j a b c d e).trans (h.2.1 j a b c d e), h'.2.2.trans h.2.2⟩
theorem srFr.row {b k j : Nat} {M M1 : fmM} {x : Int32} (h : srFr b M M1) (hk : 423 + b ≤ k ∧ k < 503) : srFr b M (fmI M1 k j x) := by
  refine ⟨fun k' j' a c => ?_, fun j' a b c d e => ?_, h.2.2⟩
  · rw [fmI_k _ _ (by omega)]
    exact h.1 k' j' a c
  · rw [fmI_k _ _ (by omega)]
    exact h.2.1 j' a b c d e
theorem srFr.c0 {b j : Nat} {M M1 : fmM} {x : Int32} (h : srFr b M M1) (hj : j = 4 ∨ j = 5 ∨ j = 6 ∨ j = 8 ∨ j = 26) : srFr b M (fmI M1 0 j x) := by
  refine ⟨fun k' j' a c => ?_, fun j' a b c d e => ?_, h.2.2⟩
  · rw [fmI_k _ _ a]
    exact h.1 k' j' a c
  · rw [fmI_j _ _ (by omega)]
    exact h.2.1 j' a b c d e
theorem srBad.nz {M M' : fmM} {tx : tX} {n k a b : Nat} (h : srBad M M' tx n k a b) : ¬ M'.1 0 5 = 0 := by
  intro e
  have h1 := h.2.1
  rw [e] at h1
  have e0 : (0 : Int32).toInt = 0 := by decide
  have := h.2.2.2.1
  omega
theorem srBad.row {M M1 : fmM} {tx : tX} {n kf a b k j : Nat} {x : Int32} (hk : 423 + b ≤ k ∧ k < 503) (h : srBad M M1 tx n kf a b) : srBad M (fmI M1 k j x) tx n kf a b := by
  obtain ⟨⟨q, h1⟩, h2, h3, h4, h5⟩ := h
  have e : ∀ j', (fmI M1 k j x).1 0 j' = M1.1 0 j' := fun j' => by rw [fmI_k _ _ (by omega)]
  refine ⟨⟨q, h1.of (e 2) (e 4) ?_⟩, by rw [e]; exact h2, by rw [e]; exact h3, h4, h5.row hk⟩
  rw [fmI_k _ _ (by omega)]
theorem srBad.c8 {M M1 : fmM} {tx : tX} {n kf a b : Nat} {x : Int32} (h : srBad M M1 tx n kf a b) : srBad M (fmI M1 0 8 x) tx n kf a b := by
  obtain ⟨⟨q, h1⟩, h2, h3, h4, h5⟩ := h
  exact ⟨⟨q, h1.of rfl rfl rfl⟩, h2, h3, h4, h5.c0 (by omega)⟩
theorem srBad.of {b : Nat} {M M1 M2 : fmM} {tx : tX} {n k a : Nat} (h : srFr b M M1) (hB : rdBad M1 M2 tx n k a) : srBad M M2 tx n k a b := ⟨hB.1, hB.2.1, hB.2.2.1, hB.2.2.2.1, h.rd hB.2.2.2.2⟩
theorem srPre.b {M : fmM} {tx : tX} {n p o b l : Nat} (h : srPre M tx n p o b l) : b < 80 := by
  have h1 := h.2.2.2.2.2.1
  have h2 := h.2.2.2.2.2.2.1
  have h3 := h.1.2.2.1
  omega
def rsM (M : fmM) (x k : Int32) (b : Nat) : fmM := fmI (fmI (fmI M 0 4 x) 0 26 ((fmI M 0 4 x).1 0 26 + 1)) (423 + b) 0 k
theorem rsM_fr {M : fmM} {x k : Int32} {b : Nat} (hb : b < 80) : srFr b M (rsM M x k b) := (((srFr.refl b M).c0 (Or.inl rfl)).c0 (Or.inr (Or.inr (Or.inr (Or.inr rfl))))).row ⟨Nat.le_refl _, by omega⟩
theorem rsM_S {M : fmM} {x k : Int32} {tx : tX} {n p q o b l : Nat} (h : srPre M tx n p o b l) (hx : x.toInt = q) (hq : q ≤ n) : rS (rsM M x k b) tx n q ∧ (rsM M x k b).1 0 5 = 0 := by
  have h1 : rS (fmI (fmI M 0 4 x) 0 26 ((fmI M 0 4 x).1 0 26 + 1)) tx n q := (h.1.set hx hq).of rfl rfl rfl
  refine ⟨h1.row ⟨by omega, by omega⟩, ?_⟩
  unfold rsM
  rw [fmI_k _ _ (by omega), fmI_j _ _ (by decide), fmI_j _ _ (by decide)]
  exact h.2.1
/-- one step is read -/
theorem rs_one {M M1 M2 : fmM} {x kk w : Int32} {tx : tX} {n p q o b l k v : Nat} (h : srPre M tx n p o b l) (hk : kk.toInt = k) (f1 : rdFr (rsM M x kk b) M1) (f2 : rdFr (fmI (fmI M1 (423 + b) 1 w) (423 + b) 2 ((fmI M1 (423 + b) 1 w).1 0 26)) M2) (hw : w.toInt = v) (hS : rS M2 tx n q) (hf : M2.1 0 5 = 0) : srOk M M2 tx n q b [(k, v, b + 1)] := by
  have hb := h.b
  have e26 : (rsM M x kk b).1 0 26 = M.1 0 26 + 1 := by
    unfold rsM
    rw [fmI_k _ _ (by omega), fmI_s, fmI_j _ _ (by decide)]
  have g26 : (fmI M1 (423 + b) 1 w).1 0 26 = M.1 0 26 + 1 := by
    rw [fmI_k _ _ (by omega), f1.2.1 26 (by decide) (by decide) (by decide), e26]
  have t26 : (M.1 0 26 + 1).toInt = ((b + 1 : Nat) : Int) := i32_p1 h.2.2.2.2.1 (by omega)
  refine ⟨hS, hf, ?_, ?_, fun i s hi => ?_, ((((rsM_fr hb).rd f1).row ⟨Nat.le_refl _, by omega⟩).row ⟨Nat.le_refl _, by omega⟩).rd f2⟩
  · rw [f2.2.1 8 (by decide) (by decide) (by decide), fmI_k _ _ (by omega), fmI_k _ _ (by omega), f1.2.1 8 (by decide) (by decide) (by decide)]
    unfold rsM
    rw [fmI_k _ _ (by omega), fmI_j _ _ (by decide), fmI_j _ _ (by decide)]
  · rw [f2.2.1 26 (by decide) (by decide) (by decide), fmI_k _ _ (by omega), g26]
    exact t26
  · cases i with
    | succ i => cases hi
    | zero =>
      cases hi
      rw [show 423 + b + 0 = 423 + b from rfl]
      refine ⟨?_, fun _ => ?_, ?_⟩
      · rw [f2.1 _ _ (by omega), fmI_j _ _ (by decide), fmI_j _ _ (by decide), f1.1 _ _ (by omega)]
        unfold rsM
        rw [fmI_s]
        exact hk
      · rw [f2.1 _ _ (by omega), fmI_j _ _ (by decide), fmI_s]
        exact hw
      · rw [f2.1 _ _ (by omega), fmI_s, g26]
        exact t26
/-- a week is read -/
theorem rs_wk {M M2 : fmM} {x : Int32} {tx : tX} {n p q o b l : Nat} (h : srPre M tx n p o b l) (f2 : rdFr (fmI (rsM M x 3 b) (423 + b) 2 ((rsM M x 3 b).1 0 26)) M2) (hS : rS M2 tx n q) (hf : M2.1 0 5 = 0) : srOk M M2 tx n q b [(3, 0, b + 1)] := by
  have hb := h.b
  have e26 : (rsM M x 3 b).1 0 26 = M.1 0 26 + 1 := by
    unfold rsM
    rw [fmI_k _ _ (by omega), fmI_s, fmI_j _ _ (by decide)]
  have t26 : (M.1 0 26 + 1).toInt = ((b + 1 : Nat) : Int) := i32_p1 h.2.2.2.2.1 (by omega)
  refine ⟨hS, hf, ?_, ?_, fun i s hi => ?_, ((rsM_fr hb).row ⟨Nat.le_refl _, by omega⟩).rd f2⟩
  · rw [f2.2.1 8 (by decide) (by decide) (by decide), fmI_k _ _ (by omega)]
    unfold rsM
    rw [fmI_k _ _ (by omega), fmI_j _ _ (by decide), fmI_j _ _ (by decide)]
  · rw [f2.2.1 26 (by decide) (by decide) (by decide), fmI_k _ _ (by omega), e26]
    exact t26
  · cases i with
    | succ i => cases hi
    | zero =>
      cases hi
      rw [show 423 + b + 0 = 423 + b from rfl]
      refine ⟨?_, fun h => absurd rfl h, ?_⟩
      · rw [f2.1 _ _ (by omega), fmI_j _ _ (by decide)]
        unfold rsM
        rw [fmI_s]
        exact (show (3 : Int32).toInt = 3 by decide)
      · rw [f2.1 _ _ (by omega), fmI_s, e26]
        exact t26
set_option maxRecDepth 20000 in
theorem c_stepHere {M : fmM} {Q : fmR → fmM → Prop} {tx : tX} {n p : Nat} (hS : rS M tx n p) (hf : M.1 0 5 = 0) (h_0 : ∀ x : Int32, stK (wd tx (sk tx p)) = some 0 → x.toInt = sk tx p → Q (.inl (some (.int 0))) (fmI M 0 4 x)) (h_1 : ∀ x : Int32, stK (wd tx (sk tx p)) = some 1 → x.toInt = sk tx p → Q (.inl (some (.int 1))) (fmI M 0 4 x)) (h_2 : ∀ x : Int32, stK (wd tx (sk tx p)) = some 2 → x.toInt = sk tx p → Q (.inl (some (.int 2))) (fmI M 0 4 x)) (h_3 : ∀ x : Int32, stK (wd tx (sk tx p)) = some 3 → x.toInt = sk tx p → Q (.inl (some (.int 3))) (fmI M 0 4 x)) (h_4 : ∀ x : Int32, stK (wd tx (sk tx p)) = some 4 → x.toInt = sk tx p → Q (.inl (some (.int 4))) (fmI M 0 4 x)) (hn : ∀ x : Int32, stK (wd tx (sk tx p)) = none → x.toInt = sk tx p → Q (.inl (some (.int (-1)))) (fmI M 0 4 x)) : pvGood Tm 4 qX11_stepHere [.ref 0] M Q := by
  refine pvGood_of (Nat.le_of_ble_eq_true rfl) ?_
  show pvEv Tm 4 qX11_stepHere 0 [some (.ref 0)] [] M Q
  refine pv_aloadn (pc := 0) (n := 0) 0 rfl rfl (fm_dec dtX11_stepHere 0 rfl) ?_
  refine pv_bipush (pc := 1) (v := 23) (by decide) (fm_dec dtX11_stepHere 1 rfl) ?_
  refine pv_bipush (pc := 3) (v := 18) (by decide) (fm_dec dtX11_stepHere 2 rfl) ?_
  refine pv_bipush (pc := 5) (v := 9) (by decide) (fm_dec dtX11_stepHere 3 rfl) ?_
  refine pv_bipush (pc := 7) (v := 20) (by decide) (fm_dec dtX11_stepHere 4 rfl) ?_
  refine pv_iconst (pc := 9) (v := 5) (by decide) (fm_dec dtX11_stepHere 5 rfl) ?_
  refine pv_invV5 (k := 0) (d' := 3) (pc := 10) pcv_X11_150 (by decide) rfl (Nat.le_of_ble_eq_true rfl) (by decide) (fm_dec dtX11_stepHere 6 rfl) ?_
  refine c_isWord [119, 114, 105, 116, 101] ⟨by decide, by decide, by decide⟩ hS hf (fun x10 e10 hx10 => ?_) (fun x10 e10 hx10 => ?_)
  · refine pv_then1 ?_
    refine pv_if_eq (pc := 13) 18 (by decide) (fm_dec dtX11_stepHere 7 rfl) (fun hc13 => by exfalso; revert hc13; decide) (fun _ => ?_)
    refine pv_iconst (pc := 16) (v := 0) (by decide) (fm_dec dtX11_stepHere 8 rfl) ?_
    exact pv_ireturn (pc := 17) rfl (fm_dec dtX11_stepHere 9 rfl) (by (try simp only [fmI_fmI]); exact h_0 x10 (by unfold stK; rw [if_pos e10]) hx10)
  · refine pv_then1 ?_
    refine pv_if_eq (pc := 13) 18 (by decide) (fm_dec dtX11_stepHere 7 rfl) (fun _ => ?_) (fun hc13 => by exfalso; revert hc13; decide)
    have hS1 := hS.set hx10 (hS.bl hx10).2.2.1
    refine pv_aloadn (pc := 18) (n := 0) 0 rfl rfl (fm_dec dtX11_stepHere 10 rfl) ?_
    refine pv_bipush (pc := 19) (v := 18) (by decide) (fm_dec dtX11_stepHere 11 rfl) ?_
    refine pv_iconst (pc := 21) (v := 5) (by decide) (fm_dec dtX11_stepHere 12 rfl) ?_
    refine pv_bipush (pc := 22) (v := 14) (by decide) (fm_dec dtX11_stepHere 13 rfl) ?_
    refine pv_iconst (pc := 24) (v := 5) (by decide) (fm_dec dtX11_stepHere 14 rfl) ?_
    refine pv_bipush (pc := 25) (v := 23) (by decide) (fm_dec dtX11_stepHere 15 rfl) ?_
    refine pv_invV5 (k := 0) (d' := 3) (pc := 27) pcv_X11_150 (by decide) rfl (Nat.le_of_ble_eq_true rfl) (by decide) (fm_dec dtX11_stepHere 16 rfl) ?_
    refine c_isWord [114, 101, 110, 101, 119] ⟨by decide, by decide, by decide⟩ hS1 hf (fun x27 e27 hx27 => ?_) (fun x27 e27 hx27 => ?_)
    · refine pv_then1 ?_
      refine pv_if_eq (pc := 30) 35 (by decide) (fm_dec dtX11_stepHere 17 rfl) (fun hc30 => by exfalso; revert hc30; decide) (fun _ => ?_)
      refine pv_iconst (pc := 33) (v := 1) (by decide) (fm_dec dtX11_stepHere 18 rfl) ?_
      exact pv_ireturn (pc := 34) rfl (fm_dec dtX11_stepHere 19 rfl) (by rw [sk_sk hS.2.2.2.1 hS.2.2.1] at e27 hx27; (try simp only [fmI_fmI]); exact h_1 x27 (by unfold stK; rw [if_neg e10]; rw [if_pos e27]) hx27)
    · refine pv_then1 ?_
      refine pv_if_eq (pc := 30) 35 (by decide) (fm_dec dtX11_stepHere 17 rfl) (fun _ => ?_) (fun hc30 => by exfalso; revert hc30; decide)
      rw [sk_sk hS.2.2.2.1 hS.2.2.1] at e27 hx27
      have hS2 := hS1.set hx27 hS1.2.2.1
      refine pv_aloadn (pc := 35) (n := 0) 0 rfl rfl (fm_dec dtX11_stepHere 20 rfl) ?_
      refine pv_iconst (pc := 36) (v := 4) (by decide) (fm_dec dtX11_stepHere 21 rfl) ?_
      refine pv_bipush (pc := 37) (v := 9) (by decide) (fm_dec dtX11_stepHere 22 rfl) ?_
      refine pv_iconst (pc := 39) (v := 5) (by decide) (fm_dec dtX11_stepHere 23 rfl) ?_
      refine pv_iconst (pc := 40) (v := 0) (by decide) (fm_dec dtX11_stepHere 24 rfl) ?_
      refine pv_iconst (pc := 41) (v := 0) (by decide) (fm_dec dtX11_stepHere 25 rfl) ?_
      refine pv_invV5 (k := 0) (d' := 3) (pc := 42) pcv_X11_150 (by decide) rfl (Nat.le_of_ble_eq_true rfl) (by decide) (fm_dec dtX11_stepHere 26 rfl) ?_
      refine c_isWord [100, 105, 101] ⟨by decide, by decide, by decide⟩ hS2 hf (fun x42 e42 hx42 => ?_) (fun x42 e42 hx42 => ?_)
      · refine pv_then1 ?_
        refine pv_if_eq (pc := 45) 50 (by decide) (fm_dec dtX11_stepHere 27 rfl) (fun hc45 => by exfalso; revert hc45; decide) (fun _ => ?_)
        refine pv_iconst (pc := 48) (v := 2) (by decide) (fm_dec dtX11_stepHere 28 rfl) ?_
        exact pv_ireturn (pc := 49) rfl (fm_dec dtX11_stepHere 29 rfl) (by rw [sk_sk hS.2.2.2.1 hS.2.2.1] at e42 hx42; (try simp only [fmI_fmI]); exact h_2 x42 (by unfold stK; rw [if_neg e10]; rw [if_neg e27]; rw [if_pos e42]) hx42)
      · refine pv_then1 ?_
        refine pv_if_eq (pc := 45) 50 (by decide) (fm_dec dtX11_stepHere 27 rfl) (fun _ => ?_) (fun hc45 => by exfalso; revert hc45; decide)
        rw [sk_sk hS.2.2.2.1 hS.2.2.1] at e42 hx42
        have hS3 := hS2.set hx42 hS1.2.2.1
        refine pv_aloadn (pc := 50) (n := 0) 0 rfl rfl (fm_dec dtX11_stepHere 30 rfl) ?_
        refine pv_bipush (pc := 51) (v := 23) (by decide) (fm_dec dtX11_stepHere 31 rfl) ?_
        refine pv_iconst (pc := 53) (v := 5) (by decide) (fm_dec dtX11_stepHere 32 rfl) ?_
        refine pv_iconst (pc := 54) (v := 5) (by decide) (fm_dec dtX11_stepHere 33 rfl) ?_
        refine pv_bipush (pc := 55) (v := 11) (by decide) (fm_dec dtX11_stepHere 34 rfl) ?_
        refine pv_iconst (pc := 57) (v := 0) (by decide) (fm_dec dtX11_stepHere 35 rfl) ?_
        refine pv_invV5 (k := 0) (d' := 3) (pc := 58) pcv_X11_150 (by decide) rfl (Nat.le_of_ble_eq_true rfl) (by decide) (fm_dec dtX11_stepHere 36 rfl) ?_
        refine c_isWord [119, 101, 101, 107] ⟨by decide, by decide, by decide⟩ hS3 hf (fun x58 e58 hx58 => ?_) (fun x58 e58 hx58 => ?_)
        · refine pv_then1 ?_
          refine pv_if_eq (pc := 61) 66 (by decide) (fm_dec dtX11_stepHere 37 rfl) (fun hc61 => by exfalso; revert hc61; decide) (fun _ => ?_)
          refine pv_iconst (pc := 64) (v := 3) (by decide) (fm_dec dtX11_stepHere 38 rfl) ?_
          exact pv_ireturn (pc := 65) rfl (fm_dec dtX11_stepHere 39 rfl) (by rw [sk_sk hS.2.2.2.1 hS.2.2.1] at e58 hx58; (try simp only [fmI_fmI]); exact h_3 x58 (by unfold stK; rw [if_neg e10]; rw [if_neg e27]; rw [if_neg e42]; rw [if_pos e58]) hx58)
        · refine pv_then1 ?_
          refine pv_if_eq (pc := 61) 66 (by decide) (fm_dec dtX11_stepHere 37 rfl) (fun _ => ?_) (fun hc61 => by exfalso; revert hc61; decide)
          rw [sk_sk hS.2.2.2.1 hS.2.2.1] at e58 hx58
          have hS4 := hS3.set hx58 hS1.2.2.1
          refine pv_aloadn (pc := 66) (n := 0) 0 rfl rfl (fm_dec dtX11_stepHere 40 rfl) ?_
          refine pv_iconst (pc := 67) (v := 1) (by decide) (fm_dec dtX11_stepHere 41 rfl) ?_
          refine pv_bipush (pc := 68) (v := 7) (by decide) (fm_dec dtX11_stepHere 42 rfl) ?_
          refine pv_iconst (pc := 70) (v := 1) (by decide) (fm_dec dtX11_stepHere 43 rfl) ?_
          refine pv_bipush (pc := 71) (v := 9) (by decide) (fm_dec dtX11_stepHere 44 rfl) ?_
          refine pv_bipush (pc := 73) (v := 14) (by decide) (fm_dec dtX11_stepHere 45 rfl) ?_
          refine pv_invV5 (k := 0) (d' := 3) (pc := 75) pcv_X11_150 (by decide) rfl (Nat.le_of_ble_eq_true rfl) (by decide) (fm_dec dtX11_stepHere 46 rfl) ?_
          refine c_isWord [97, 103, 97, 105, 110] ⟨by decide, by decide, by decide⟩ hS4 hf (fun x75 e75 hx75 => ?_) (fun x75 e75 hx75 => ?_)
          · refine pv_then1 ?_
            refine pv_if_eq (pc := 78) 85 (by decide) (fm_dec dtX11_stepHere 47 rfl) (fun hc78 => by exfalso; revert hc78; decide) (fun _ => ?_)
            refine pv_iconst (pc := 81) (v := 4) (by decide) (fm_dec dtX11_stepHere 48 rfl) ?_
            refine pv_goto (pc := 82) 86 (by decide) (fm_dec dtX11_stepHere 49 rfl) ?_
            exact pv_ireturn (pc := 86) rfl (fm_dec dtX11_stepHere 51 rfl) (by rw [sk_sk hS.2.2.2.1 hS.2.2.1] at e75 hx75; (try simp only [fmI_fmI]); first | exact h_4 x75 (by unfold stK; rw [if_neg e10]; rw [if_neg e27]; rw [if_neg e42]; rw [if_neg e58]; rw [if_pos e75]) hx75 | exact hn x75 (by unfold stK; rw [if_neg e10, if_neg e27, if_neg e42, if_neg e58, if_neg e75]) hx75)
          · refine pv_then1 ?_
            refine pv_if_eq (pc := 78) 85 (by decide) (fm_dec dtX11_stepHere 47 rfl) (fun _ => ?_) (fun hc78 => by exfalso; revert hc78; decide)
            refine pv_iconst (pc := 85) (v := (-1)) (by decide) (fm_dec dtX11_stepHere 50 rfl) ?_
            exact pv_ireturn (pc := 86) rfl (fm_dec dtX11_stepHere 51 rfl) (by rw [sk_sk hS.2.2.2.1 hS.2.2.1] at e75 hx75; (try simp only [fmI_fmI]); first | exact h_4 x75 (by unfold stK; rw [if_neg e10]; rw [if_neg e27]; rw [if_neg e42]; rw [if_neg e58]; rw [if_pos e75]) hx75 | exact hn x75 (by unfold stK; rw [if_neg e10, if_neg e27, if_neg e42, if_neg e58, if_neg e75]) hx75)
set_option maxRecDepth 20000 in
theorem rs5_0 {Q : fmR → fmM → Prop} {M : fmM} {tx : tX} {n a o b l : Nat} {v2 : Option Value} (hP : srPre M tx n a o b l) (hok : ∀ (M' : fmM) (ss : tS) (q' : Nat), spSi tx l 0 b (sp tW tx a) = .inr (ss, q') → srOk M M' tx n q' b ss → Q (.inl none) M') (hbad : ∀ (M' : fmM) (k a' : Nat), spSi tx l 0 b (sp tW tx a) = .inl (k, a') → srBad M M' tx n k a' b → Q (.inl none) M') : pvEv Tm (5 + (6 - o)) qX11_readsStep 5 [some (.ref 0), some (.int 0), v2] [] M Q := by
  refine pv_iloadn (pc := 5) (n := 1) 1 rfl rfl (fm_dec dtX11_readsStep 3 rfl) ?_
  refine pv_iconst (pc := 6) (v := (-1)) (by decide) (fm_dec dtX11_readsStep 4 rfl) ?_
  refine pv_icmp_ne (pc := 7) 19 (by decide) (fm_dec dtX11_readsStep 5 rfl) (fun _ => ?_) (fun hc7 => by exfalso; revert hc7; decide)
  refine pv_iloadn (pc := 19) (n := 1) 1 rfl rfl (fm_dec dtX11_readsStep 11 rfl) ?_
  refine pv_iconst (pc := 20) (v := 4) (by decide) (fm_dec dtX11_readsStep 12 rfl) ?_
  refine pv_icmp_ne (pc := 21) 32 (by decide) (fm_dec dtX11_readsStep 13 rfl) (fun _ => ?_) (fun hc21 => by exfalso; revert hc21; decide)
  refine pv_aloadn (pc := 32) (n := 0) 0 rfl rfl (fm_dec dtX11_readsStep 18 rfl) ?_
  refine pv_getI (k := 0) (j := 5) (ci := 11) (pc := 33) pfl_X11_117 (by decide) rfl (by decide) (fm_dec dtX11_readsStep 19 rfl) ?_
  refine pv_if_eq (pc := 36) 40 (by decide) (fm_dec dtX11_readsStep 20 rfl) (fun _ => ?_) (fun hc36 => by exfalso; exact hc36 hP.2.1)
  refine pv_aloadn (pc := 40) (n := 0) 0 rfl rfl (fm_dec dtX11_readsStep 22 rfl) ?_
  refine pv_invV0 (k := 0) (d' := 1) (pc := 41) pcv_X11_154 (by decide) rfl (Nat.le_of_ble_eq_true rfl) (by omega) (fm_dec dtX11_readsStep 23 rfl) ?_
  refine c_skipWord hP.1 (fun x40 hx40 => ?_)
  refine pv_then0 ?_
  have hb80 := hP.b
  have hw40 := sp_le (p := a) tW_1 hP.1.2.2.2.1 hP.1.2.2.1
  refine pv_aloadn (pc := 44) (n := 0) 0 rfl rfl (fm_dec dtX11_readsStep 24 rfl) ?_
  refine pv_getR (k := 0) (j := 25) (ci := 11) (pc := 45) 24 rfl (by decide) pfl_X11_58 (by decide) rfl (by decide) (fm_dec dtX11_readsStep 25 rfl) ?_
  refine pv_aloadn (pc := 48) (n := 0) 0 rfl rfl (fm_dec dtX11_readsStep 26 rfl) ?_
  refine pv_getI (k := 0) (j := 26) (ci := 11) (pc := 49) pfl_X11_250 (by decide) rfl (by decide) (fm_dec dtX11_readsStep 27 rfl) ?_
  refine pv_aald (k := 24) (n := 80) (r := (423 + b)) (pc := 52) (by decide) (Or.inr (Or.inr rfl)) rfl (rw_step.inb hP.2.2.2.2.1 hb80) (rw_step.at hP.2.2.2.2.1 hb80) (rw_step.2.2.2 _ hb80).2.1 (fm_dec dtX11_readsStep 28 rfl) ?_
  refine pv_astoren (pc := 53) (n := 2) 2 rfl (by decide) rfl (fm_dec dtX11_readsStep 29 rfl) ?_
  dsimp only [List.set_cons_zero, List.set_cons_succ]
  refine pv_aloadn (pc := 54) (n := 0) 0 rfl rfl (fm_dec dtX11_readsStep 30 rfl) ?_
  refine pv_dup (pc := 55) rfl (fm_dec dtX11_readsStep 31 rfl) ?_
  refine pv_getI (k := 0) (j := 26) (ci := 11) (pc := 56) pfl_X11_250 (by decide) rfl (by decide) (fm_dec dtX11_readsStep 32 rfl) ?_
  refine pv_iconst (pc := 59) (v := 1) (by decide) (fm_dec dtX11_readsStep 33 rfl) ?_
  refine pv_iadd (pc := 60) (fm_dec dtX11_readsStep 34 rfl) ?_
  refine pv_putI (k := 0) (j := 26) (ci := 11) (pc := 61) pfl_X11_250 (by decide) rfl (by decide) (fm_dec dtX11_readsStep 35 rfl) ?_
  refine pv_aloadn (pc := 64) (n := 2) 2 rfl rfl (fm_dec dtX11_readsStep 36 rfl) ?_
  refine pv_iconst (pc := 65) (v := 0) (by decide) (fm_dec dtX11_readsStep 37 rfl) ?_
  refine pv_iloadn (pc := 66) (n := 1) 1 rfl rfl (fm_dec dtX11_readsStep 38 rfl) ?_
  refine pv_iast (k := (423 + b)) (n := 3) (pc := 67) (rw_step.2.2.2 _ hb80).2.2.1 (rw_step.2.2.2 _ hb80).2.2.2.1 (rw_step.2.2.2 _ hb80).2.2.2.2 (fm_inl (by decide)) (fm_dec dtX11_readsStep 39 rfl) ?_
  refine pv_iloadn (pc := 68) (n := 1) 1 rfl rfl (fm_dec dtX11_readsStep 40 rfl) ?_
  refine pv_iconst (pc := 69) (v := 3) (by decide) (fm_dec dtX11_readsStep 41 rfl) ?_
  refine pv_icmp_ge (pc := 70) 89 (by decide) (fm_dec dtX11_readsStep 42 rfl) (fun hc70 => by exfalso; revert hc70; decide) (fun _ => ?_)
  refine pv_aloadn (pc := 73) (n := 2) 2 rfl rfl (fm_dec dtX11_readsStep 43 rfl) ?_
  refine pv_iconst (pc := 74) (v := 1) (by decide) (fm_dec dtX11_readsStep 44 rfl) ?_
  refine pv_aloadn (pc := 75) (n := 0) 0 rfl rfl (fm_dec dtX11_readsStep 45 rfl) ?_
  refine pv_iconst (pc := 76) (v := 0) (by decide) (fm_dec dtX11_readsStep 46 rfl) ?_
  refine pv_aloadn (pc := 77) (n := 0) 0 rfl rfl (fm_dec dtX11_readsStep 47 rfl) ?_
  refine pv_getR (k := 0) (j := 12) (ci := 11) (pc := 78) 4 rfl (by decide) pfl_X11_23 (by decide) rfl (by decide) (fm_dec dtX11_readsStep 48 rfl) ?_
  refine pv_iconst (pc := 81) (v := 0) (by decide) (fm_dec dtX11_readsStep 49 rfl) ?_
  refine pv_iald (k := 4) (n := 6) (pc := 82) (by decide) rfl rfl (fm_inl (by decide)) (fm_dec dtX11_readsStep 50 rfl) ?_
  refine pv_iconst (pc := 83) (v := 1) (by decide) (fm_dec dtX11_readsStep 51 rfl) ?_
  refine pv_isub (pc := 84) (fm_dec dtX11_readsStep 52 rfl) ?_
  refine pv_invV2 (k := 0) (d' := 2) (pc := 85) pcv_X11_163 (by decide) rfl (Nat.le_of_ble_eq_true rfl) (by omega) (fm_dec dtX11_readsStep 53 rfl) ?_
  refine r_num (M := rsM M x40 0 b) (tx := tx) (n := n) (p := sp tW tx a) 0 ((l : Int) - 1) ⟨by decide, (by have h9 : (rsM M x40 0 b).1 4 0 = M.1 4 0 := (by unfold rsM; rw [fmI_k _ _ (by omega), fmI_k _ _ (by decide), fmI_k _ _ (by decide)]); exact (congrArg (fun y => (y - 1 : Int32).toInt) h9).trans (lh_hi hP.2.2.2.2.2.2.2.1 hP.2.2.2.2.2.2.2.2)), (by have := hP.2.2.2.2.2.2.2.2; omega)⟩ (rsM_S hP hx40 hw40).1 (rsM_S hP hx40 hw40).2 (fun M85 v85 q85 w85 e85 hw85 k85 => ?_) (fun Mb kb ab eb hB => ?_)  
  · refine pv_then1 ?_
    refine pv_iast (k := (423 + b)) (n := 3) (pc := 88) (rw_step.2.2.2 _ hb80).2.2.1 (rw_step.2.2.2 _ hb80).2.2.2.1 (rw_step.2.2.2 _ hb80).2.2.2.2 (fm_inl (by decide)) (fm_dec dtX11_readsStep 54 rfl) ?_
    refine pv_iloadn (pc := 89) (n := 1) 1 rfl rfl (fm_dec dtX11_readsStep 55 rfl) ?_
    refine pv_iconst (pc := 90) (v := 4) (by decide) (fm_dec dtX11_readsStep 56 rfl) ?_
    refine pv_icmp_ne (pc := 91) 161 (by decide) (fm_dec dtX11_readsStep 57 rfl) (fun _ => ?_) (fun hc91 => by exfalso; revert hc91; decide)
    refine pv_aloadn (pc := 161) (n := 2) 2 rfl rfl (fm_dec dtX11_readsStep 93 rfl) ?_
    refine pv_iconst (pc := 162) (v := 2) (by decide) (fm_dec dtX11_readsStep 94 rfl) ?_
    refine pv_aloadn (pc := 163) (n := 0) 0 rfl rfl (fm_dec dtX11_readsStep 95 rfl) ?_
    refine pv_getI (k := 0) (j := 26) (ci := 11) (pc := 164) pfl_X11_250 (by decide) rfl (by decide) (fm_dec dtX11_readsStep 96 rfl) ?_
    refine pv_iast (k := (423 + b)) (n := 3) (pc := 167) (rw_step.2.2.2 _ hb80).2.2.1 (rw_step.2.2.2 _ hb80).2.2.2.1 (rw_step.2.2.2 _ hb80).2.2.2.2 (fm_inl (by decide)) (fm_dec dtX11_readsStep 97 rfl) ?_
    refine pv_aloadn (pc := 168) (n := 0) 0 rfl rfl (fm_dec dtX11_readsStep 98 rfl) ?_
    refine pv_bipush (pc := 169) (v := 59) (by decide) (fm_dec dtX11_readsStep 99 rfl) ?_
    refine pv_invV1 (k := 0) (d' := 2) (pc := 171) pcv_X11_173 (by decide) rfl (Nat.le_of_ble_eq_true rfl) (by omega) (fm_dec dtX11_readsStep 100 rfl) ?_
    refine r_sign (tx := tx) (n := n) (p := q85) 59 ⟨by decide, by decide⟩ (by (repeat with_reducible refine rS.row ?_ ⟨by omega, by omega⟩); exact k85.1) (by (repeat with_reducible refine f0.row ?_ (by omega)); exact k85.2.1) (fun M171 q171 e171 k171 => ?_) (fun Mb kb ab eb hB => ?_)  
    · refine pv_then0 ?_
      exact pv_return (pc := 174) rfl (fm_dec dtX11_readsStep 101 rfl) (hok _ _ _ (by simp only [spSi, spBind, e85, e171]) (rs_one (k := 0) hP (by decide) k85.2.2 k171.2.2 hw85 k171.1 k171.2.1))
    · refine pv_then0 ?_
      have hB9 := srBad.of ((((rsM_fr hb80).rd k85.2.2).row ⟨Nat.le_refl _, by omega⟩).row ⟨Nat.le_refl _, by omega⟩) hB
      exact pv_return (pc := 174) rfl (fm_dec dtX11_readsStep 101 rfl) (hbad _ kb ab (by simp only [spSi, spBind, e85, eb]) hB9)
  · refine pv_then1 ?_
    have hB9 := srBad.of (rsM_fr hb80) hB
    refine pv_iast (k := (423 + b)) (n := 3) (pc := 88) (rw_step.2.2.2 _ hb80).2.2.1 (rw_step.2.2.2 _ hb80).2.2.2.1 (rw_step.2.2.2 _ hb80).2.2.2.2 (fm_inl (by decide)) (fm_dec dtX11_readsStep 54 rfl) ?_
    refine pv_iloadn (pc := 89) (n := 1) 1 rfl rfl (fm_dec dtX11_readsStep 55 rfl) ?_
    refine pv_iconst (pc := 90) (v := 4) (by decide) (fm_dec dtX11_readsStep 56 rfl) ?_
    refine pv_icmp_ne (pc := 91) 161 (by decide) (fm_dec dtX11_readsStep 57 rfl) (fun _ => ?_) (fun hc91 => by exfalso; revert hc91; decide)
    refine pv_aloadn (pc := 161) (n := 2) 2 rfl rfl (fm_dec dtX11_readsStep 93 rfl) ?_
    refine pv_iconst (pc := 162) (v := 2) (by decide) (fm_dec dtX11_readsStep 94 rfl) ?_
    refine pv_aloadn (pc := 163) (n := 0) 0 rfl rfl (fm_dec dtX11_readsStep 95 rfl) ?_
    refine pv_getI (k := 0) (j := 26) (ci := 11) (pc := 164) pfl_X11_250 (by decide) rfl (by decide) (fm_dec dtX11_readsStep 96 rfl) ?_
    refine pv_iast (k := (423 + b)) (n := 3) (pc := 167) (rw_step.2.2.2 _ hb80).2.2.1 (rw_step.2.2.2 _ hb80).2.2.2.1 (rw_step.2.2.2 _ hb80).2.2.2.2 (fm_inl (by decide)) (fm_dec dtX11_readsStep 97 rfl) ?_
    refine pv_aloadn (pc := 168) (n := 0) 0 rfl rfl (fm_dec dtX11_readsStep 98 rfl) ?_
    refine pv_bipush (pc := 169) (v := 59) (by decide) (fm_dec dtX11_readsStep 99 rfl) ?_
    refine pv_invV1 (k := 0) (d' := 2) (pc := 171) pcv_X11_173 (by decide) rfl (Nat.le_of_ble_eq_true rfl) (by omega) (fm_dec dtX11_readsStep 100 rfl) ?_
    refine c_sign1 (srBad.nz (M := M) (tx := tx) (n := n) (k := kb) (a := ab) (b := b) (by (repeat with_reducible refine srBad.row ⟨by omega, by omega⟩ ?_); exact hB9)) ?_
    refine pv_then0 ?_
    exact pv_return (pc := 174) rfl (fm_dec dtX11_readsStep 101 rfl) (hbad _ kb ab (by simp only [spSi, spBind, eb]) (by (repeat with_reducible refine srBad.row ⟨by omega, by omega⟩ ?_); exact hB9))
set_option maxRecDepth 20000 in
theorem rs5_1 {Q : fmR → fmM → Prop} {M : fmM} {tx : tX} {n a o b l : Nat} {v2 : Option Value} (hP : srPre M tx n a o b l) (hok : ∀ (M' : fmM) (ss : tS) (q' : Nat), spSi tx l 1 b (sp tW tx a) = .inr (ss, q') → srOk M M' tx n q' b ss → Q (.inl none) M') (hbad : ∀ (M' : fmM) (k a' : Nat), spSi tx l 1 b (sp tW tx a) = .inl (k, a') → srBad M M' tx n k a' b → Q (.inl none) M') : pvEv Tm (5 + (6 - o)) qX11_readsStep 5 [some (.ref 0), some (.int 1), v2] [] M Q := by
  refine pv_iloadn (pc := 5) (n := 1) 1 rfl rfl (fm_dec dtX11_readsStep 3 rfl) ?_
  refine pv_iconst (pc := 6) (v := (-1)) (by decide) (fm_dec dtX11_readsStep 4 rfl) ?_
  refine pv_icmp_ne (pc := 7) 19 (by decide) (fm_dec dtX11_readsStep 5 rfl) (fun _ => ?_) (fun hc7 => by exfalso; revert hc7; decide)
  refine pv_iloadn (pc := 19) (n := 1) 1 rfl rfl (fm_dec dtX11_readsStep 11 rfl) ?_
  refine pv_iconst (pc := 20) (v := 4) (by decide) (fm_dec dtX11_readsStep 12 rfl) ?_
  refine pv_icmp_ne (pc := 21) 32 (by decide) (fm_dec dtX11_readsStep 13 rfl) (fun _ => ?_) (fun hc21 => by exfalso; revert hc21; decide)
  refine pv_aloadn (pc := 32) (n := 0) 0 rfl rfl (fm_dec dtX11_readsStep 18 rfl) ?_
  refine pv_getI (k := 0) (j := 5) (ci := 11) (pc := 33) pfl_X11_117 (by decide) rfl (by decide) (fm_dec dtX11_readsStep 19 rfl) ?_
  refine pv_if_eq (pc := 36) 40 (by decide) (fm_dec dtX11_readsStep 20 rfl) (fun _ => ?_) (fun hc36 => by exfalso; exact hc36 hP.2.1)
  refine pv_aloadn (pc := 40) (n := 0) 0 rfl rfl (fm_dec dtX11_readsStep 22 rfl) ?_
  refine pv_invV0 (k := 0) (d' := 1) (pc := 41) pcv_X11_154 (by decide) rfl (Nat.le_of_ble_eq_true rfl) (by omega) (fm_dec dtX11_readsStep 23 rfl) ?_
  refine c_skipWord hP.1 (fun x40 hx40 => ?_)
  refine pv_then0 ?_
  have hb80 := hP.b
  have hw40 := sp_le (p := a) tW_1 hP.1.2.2.2.1 hP.1.2.2.1
  refine pv_aloadn (pc := 44) (n := 0) 0 rfl rfl (fm_dec dtX11_readsStep 24 rfl) ?_
  refine pv_getR (k := 0) (j := 25) (ci := 11) (pc := 45) 24 rfl (by decide) pfl_X11_58 (by decide) rfl (by decide) (fm_dec dtX11_readsStep 25 rfl) ?_
  refine pv_aloadn (pc := 48) (n := 0) 0 rfl rfl (fm_dec dtX11_readsStep 26 rfl) ?_
  refine pv_getI (k := 0) (j := 26) (ci := 11) (pc := 49) pfl_X11_250 (by decide) rfl (by decide) (fm_dec dtX11_readsStep 27 rfl) ?_
  refine pv_aald (k := 24) (n := 80) (r := (423 + b)) (pc := 52) (by decide) (Or.inr (Or.inr rfl)) rfl (rw_step.inb hP.2.2.2.2.1 hb80) (rw_step.at hP.2.2.2.2.1 hb80) (rw_step.2.2.2 _ hb80).2.1 (fm_dec dtX11_readsStep 28 rfl) ?_
  refine pv_astoren (pc := 53) (n := 2) 2 rfl (by decide) rfl (fm_dec dtX11_readsStep 29 rfl) ?_
  dsimp only [List.set_cons_zero, List.set_cons_succ]
  refine pv_aloadn (pc := 54) (n := 0) 0 rfl rfl (fm_dec dtX11_readsStep 30 rfl) ?_
  refine pv_dup (pc := 55) rfl (fm_dec dtX11_readsStep 31 rfl) ?_
  refine pv_getI (k := 0) (j := 26) (ci := 11) (pc := 56) pfl_X11_250 (by decide) rfl (by decide) (fm_dec dtX11_readsStep 32 rfl) ?_
  refine pv_iconst (pc := 59) (v := 1) (by decide) (fm_dec dtX11_readsStep 33 rfl) ?_
  refine pv_iadd (pc := 60) (fm_dec dtX11_readsStep 34 rfl) ?_
  refine pv_putI (k := 0) (j := 26) (ci := 11) (pc := 61) pfl_X11_250 (by decide) rfl (by decide) (fm_dec dtX11_readsStep 35 rfl) ?_
  refine pv_aloadn (pc := 64) (n := 2) 2 rfl rfl (fm_dec dtX11_readsStep 36 rfl) ?_
  refine pv_iconst (pc := 65) (v := 0) (by decide) (fm_dec dtX11_readsStep 37 rfl) ?_
  refine pv_iloadn (pc := 66) (n := 1) 1 rfl rfl (fm_dec dtX11_readsStep 38 rfl) ?_
  refine pv_iast (k := (423 + b)) (n := 3) (pc := 67) (rw_step.2.2.2 _ hb80).2.2.1 (rw_step.2.2.2 _ hb80).2.2.2.1 (rw_step.2.2.2 _ hb80).2.2.2.2 (fm_inl (by decide)) (fm_dec dtX11_readsStep 39 rfl) ?_
  refine pv_iloadn (pc := 68) (n := 1) 1 rfl rfl (fm_dec dtX11_readsStep 40 rfl) ?_
  refine pv_iconst (pc := 69) (v := 3) (by decide) (fm_dec dtX11_readsStep 41 rfl) ?_
  refine pv_icmp_ge (pc := 70) 89 (by decide) (fm_dec dtX11_readsStep 42 rfl) (fun hc70 => by exfalso; revert hc70; decide) (fun _ => ?_)
  refine pv_aloadn (pc := 73) (n := 2) 2 rfl rfl (fm_dec dtX11_readsStep 43 rfl) ?_
  refine pv_iconst (pc := 74) (v := 1) (by decide) (fm_dec dtX11_readsStep 44 rfl) ?_
  refine pv_aloadn (pc := 75) (n := 0) 0 rfl rfl (fm_dec dtX11_readsStep 45 rfl) ?_
  refine pv_iconst (pc := 76) (v := 0) (by decide) (fm_dec dtX11_readsStep 46 rfl) ?_
  refine pv_aloadn (pc := 77) (n := 0) 0 rfl rfl (fm_dec dtX11_readsStep 47 rfl) ?_
  refine pv_getR (k := 0) (j := 12) (ci := 11) (pc := 78) 4 rfl (by decide) pfl_X11_23 (by decide) rfl (by decide) (fm_dec dtX11_readsStep 48 rfl) ?_
  refine pv_iconst (pc := 81) (v := 0) (by decide) (fm_dec dtX11_readsStep 49 rfl) ?_
  refine pv_iald (k := 4) (n := 6) (pc := 82) (by decide) rfl rfl (fm_inl (by decide)) (fm_dec dtX11_readsStep 50 rfl) ?_
  refine pv_iconst (pc := 83) (v := 1) (by decide) (fm_dec dtX11_readsStep 51 rfl) ?_
  refine pv_isub (pc := 84) (fm_dec dtX11_readsStep 52 rfl) ?_
  refine pv_invV2 (k := 0) (d' := 2) (pc := 85) pcv_X11_163 (by decide) rfl (Nat.le_of_ble_eq_true rfl) (by omega) (fm_dec dtX11_readsStep 53 rfl) ?_
  refine r_num (M := rsM M x40 1 b) (tx := tx) (n := n) (p := sp tW tx a) 0 ((l : Int) - 1) ⟨by decide, (by have h9 : (rsM M x40 1 b).1 4 0 = M.1 4 0 := (by unfold rsM; rw [fmI_k _ _ (by omega), fmI_k _ _ (by decide), fmI_k _ _ (by decide)]); exact (congrArg (fun y => (y - 1 : Int32).toInt) h9).trans (lh_hi hP.2.2.2.2.2.2.2.1 hP.2.2.2.2.2.2.2.2)), (by have := hP.2.2.2.2.2.2.2.2; omega)⟩ (rsM_S hP hx40 hw40).1 (rsM_S hP hx40 hw40).2 (fun M85 v85 q85 w85 e85 hw85 k85 => ?_) (fun Mb kb ab eb hB => ?_)  
  · refine pv_then1 ?_
    refine pv_iast (k := (423 + b)) (n := 3) (pc := 88) (rw_step.2.2.2 _ hb80).2.2.1 (rw_step.2.2.2 _ hb80).2.2.2.1 (rw_step.2.2.2 _ hb80).2.2.2.2 (fm_inl (by decide)) (fm_dec dtX11_readsStep 54 rfl) ?_
    refine pv_iloadn (pc := 89) (n := 1) 1 rfl rfl (fm_dec dtX11_readsStep 55 rfl) ?_
    refine pv_iconst (pc := 90) (v := 4) (by decide) (fm_dec dtX11_readsStep 56 rfl) ?_
    refine pv_icmp_ne (pc := 91) 161 (by decide) (fm_dec dtX11_readsStep 57 rfl) (fun _ => ?_) (fun hc91 => by exfalso; revert hc91; decide)
    refine pv_aloadn (pc := 161) (n := 2) 2 rfl rfl (fm_dec dtX11_readsStep 93 rfl) ?_
    refine pv_iconst (pc := 162) (v := 2) (by decide) (fm_dec dtX11_readsStep 94 rfl) ?_
    refine pv_aloadn (pc := 163) (n := 0) 0 rfl rfl (fm_dec dtX11_readsStep 95 rfl) ?_
    refine pv_getI (k := 0) (j := 26) (ci := 11) (pc := 164) pfl_X11_250 (by decide) rfl (by decide) (fm_dec dtX11_readsStep 96 rfl) ?_
    refine pv_iast (k := (423 + b)) (n := 3) (pc := 167) (rw_step.2.2.2 _ hb80).2.2.1 (rw_step.2.2.2 _ hb80).2.2.2.1 (rw_step.2.2.2 _ hb80).2.2.2.2 (fm_inl (by decide)) (fm_dec dtX11_readsStep 97 rfl) ?_
    refine pv_aloadn (pc := 168) (n := 0) 0 rfl rfl (fm_dec dtX11_readsStep 98 rfl) ?_
    refine pv_bipush (pc := 169) (v := 59) (by decide) (fm_dec dtX11_readsStep 99 rfl) ?_
    refine pv_invV1 (k := 0) (d' := 2) (pc := 171) pcv_X11_173 (by decide) rfl (Nat.le_of_ble_eq_true rfl) (by omega) (fm_dec dtX11_readsStep 100 rfl) ?_
    refine r_sign (tx := tx) (n := n) (p := q85) 59 ⟨by decide, by decide⟩ (by (repeat with_reducible refine rS.row ?_ ⟨by omega, by omega⟩); exact k85.1) (by (repeat with_reducible refine f0.row ?_ (by omega)); exact k85.2.1) (fun M171 q171 e171 k171 => ?_) (fun Mb kb ab eb hB => ?_)  
    · refine pv_then0 ?_
      exact pv_return (pc := 174) rfl (fm_dec dtX11_readsStep 101 rfl) (hok _ _ _ (by simp only [spSi, spBind, e85, e171]) (rs_one (k := 1) hP (by decide) k85.2.2 k171.2.2 hw85 k171.1 k171.2.1))
    · refine pv_then0 ?_
      have hB9 := srBad.of ((((rsM_fr hb80).rd k85.2.2).row ⟨Nat.le_refl _, by omega⟩).row ⟨Nat.le_refl _, by omega⟩) hB
      exact pv_return (pc := 174) rfl (fm_dec dtX11_readsStep 101 rfl) (hbad _ kb ab (by simp only [spSi, spBind, e85, eb]) hB9)
  · refine pv_then1 ?_
    have hB9 := srBad.of (rsM_fr hb80) hB
    refine pv_iast (k := (423 + b)) (n := 3) (pc := 88) (rw_step.2.2.2 _ hb80).2.2.1 (rw_step.2.2.2 _ hb80).2.2.2.1 (rw_step.2.2.2 _ hb80).2.2.2.2 (fm_inl (by decide)) (fm_dec dtX11_readsStep 54 rfl) ?_
    refine pv_iloadn (pc := 89) (n := 1) 1 rfl rfl (fm_dec dtX11_readsStep 55 rfl) ?_
    refine pv_iconst (pc := 90) (v := 4) (by decide) (fm_dec dtX11_readsStep 56 rfl) ?_
    refine pv_icmp_ne (pc := 91) 161 (by decide) (fm_dec dtX11_readsStep 57 rfl) (fun _ => ?_) (fun hc91 => by exfalso; revert hc91; decide)
    refine pv_aloadn (pc := 161) (n := 2) 2 rfl rfl (fm_dec dtX11_readsStep 93 rfl) ?_
    refine pv_iconst (pc := 162) (v := 2) (by decide) (fm_dec dtX11_readsStep 94 rfl) ?_
    refine pv_aloadn (pc := 163) (n := 0) 0 rfl rfl (fm_dec dtX11_readsStep 95 rfl) ?_
    refine pv_getI (k := 0) (j := 26) (ci := 11) (pc := 164) pfl_X11_250 (by decide) rfl (by decide) (fm_dec dtX11_readsStep 96 rfl) ?_
    refine pv_iast (k := (423 + b)) (n := 3) (pc := 167) (rw_step.2.2.2 _ hb80).2.2.1 (rw_step.2.2.2 _ hb80).2.2.2.1 (rw_step.2.2.2 _ hb80).2.2.2.2 (fm_inl (by decide)) (fm_dec dtX11_readsStep 97 rfl) ?_
    refine pv_aloadn (pc := 168) (n := 0) 0 rfl rfl (fm_dec dtX11_readsStep 98 rfl) ?_
    refine pv_bipush (pc := 169) (v := 59) (by decide) (fm_dec dtX11_readsStep 99 rfl) ?_
    refine pv_invV1 (k := 0) (d' := 2) (pc := 171) pcv_X11_173 (by decide) rfl (Nat.le_of_ble_eq_true rfl) (by omega) (fm_dec dtX11_readsStep 100 rfl) ?_
    refine c_sign1 (srBad.nz (M := M) (tx := tx) (n := n) (k := kb) (a := ab) (b := b) (by (repeat with_reducible refine srBad.row ⟨by omega, by omega⟩ ?_); exact hB9)) ?_
    refine pv_then0 ?_
    exact pv_return (pc := 174) rfl (fm_dec dtX11_readsStep 101 rfl) (hbad _ kb ab (by simp only [spSi, spBind, eb]) (by (repeat with_reducible refine srBad.row ⟨by omega, by omega⟩ ?_); exact hB9))
set_option maxRecDepth 20000 in
theorem rs5_2 {Q : fmR → fmM → Prop} {M : fmM} {tx : tX} {n a o b l : Nat} {v2 : Option Value} (hP : srPre M tx n a o b l) (hok : ∀ (M' : fmM) (ss : tS) (q' : Nat), spSi tx l 2 b (sp tW tx a) = .inr (ss, q') → srOk M M' tx n q' b ss → Q (.inl none) M') (hbad : ∀ (M' : fmM) (k a' : Nat), spSi tx l 2 b (sp tW tx a) = .inl (k, a') → srBad M M' tx n k a' b → Q (.inl none) M') : pvEv Tm (5 + (6 - o)) qX11_readsStep 5 [some (.ref 0), some (.int 2), v2] [] M Q := by
  refine pv_iloadn (pc := 5) (n := 1) 1 rfl rfl (fm_dec dtX11_readsStep 3 rfl) ?_
  refine pv_iconst (pc := 6) (v := (-1)) (by decide) (fm_dec dtX11_readsStep 4 rfl) ?_
  refine pv_icmp_ne (pc := 7) 19 (by decide) (fm_dec dtX11_readsStep 5 rfl) (fun _ => ?_) (fun hc7 => by exfalso; revert hc7; decide)
  refine pv_iloadn (pc := 19) (n := 1) 1 rfl rfl (fm_dec dtX11_readsStep 11 rfl) ?_
  refine pv_iconst (pc := 20) (v := 4) (by decide) (fm_dec dtX11_readsStep 12 rfl) ?_
  refine pv_icmp_ne (pc := 21) 32 (by decide) (fm_dec dtX11_readsStep 13 rfl) (fun _ => ?_) (fun hc21 => by exfalso; revert hc21; decide)
  refine pv_aloadn (pc := 32) (n := 0) 0 rfl rfl (fm_dec dtX11_readsStep 18 rfl) ?_
  refine pv_getI (k := 0) (j := 5) (ci := 11) (pc := 33) pfl_X11_117 (by decide) rfl (by decide) (fm_dec dtX11_readsStep 19 rfl) ?_
  refine pv_if_eq (pc := 36) 40 (by decide) (fm_dec dtX11_readsStep 20 rfl) (fun _ => ?_) (fun hc36 => by exfalso; exact hc36 hP.2.1)
  refine pv_aloadn (pc := 40) (n := 0) 0 rfl rfl (fm_dec dtX11_readsStep 22 rfl) ?_
  refine pv_invV0 (k := 0) (d' := 1) (pc := 41) pcv_X11_154 (by decide) rfl (Nat.le_of_ble_eq_true rfl) (by omega) (fm_dec dtX11_readsStep 23 rfl) ?_
  refine c_skipWord hP.1 (fun x40 hx40 => ?_)
  refine pv_then0 ?_
  have hb80 := hP.b
  have hw40 := sp_le (p := a) tW_1 hP.1.2.2.2.1 hP.1.2.2.1
  refine pv_aloadn (pc := 44) (n := 0) 0 rfl rfl (fm_dec dtX11_readsStep 24 rfl) ?_
  refine pv_getR (k := 0) (j := 25) (ci := 11) (pc := 45) 24 rfl (by decide) pfl_X11_58 (by decide) rfl (by decide) (fm_dec dtX11_readsStep 25 rfl) ?_
  refine pv_aloadn (pc := 48) (n := 0) 0 rfl rfl (fm_dec dtX11_readsStep 26 rfl) ?_
  refine pv_getI (k := 0) (j := 26) (ci := 11) (pc := 49) pfl_X11_250 (by decide) rfl (by decide) (fm_dec dtX11_readsStep 27 rfl) ?_
  refine pv_aald (k := 24) (n := 80) (r := (423 + b)) (pc := 52) (by decide) (Or.inr (Or.inr rfl)) rfl (rw_step.inb hP.2.2.2.2.1 hb80) (rw_step.at hP.2.2.2.2.1 hb80) (rw_step.2.2.2 _ hb80).2.1 (fm_dec dtX11_readsStep 28 rfl) ?_
  refine pv_astoren (pc := 53) (n := 2) 2 rfl (by decide) rfl (fm_dec dtX11_readsStep 29 rfl) ?_
  dsimp only [List.set_cons_zero, List.set_cons_succ]
  refine pv_aloadn (pc := 54) (n := 0) 0 rfl rfl (fm_dec dtX11_readsStep 30 rfl) ?_
  refine pv_dup (pc := 55) rfl (fm_dec dtX11_readsStep 31 rfl) ?_
  refine pv_getI (k := 0) (j := 26) (ci := 11) (pc := 56) pfl_X11_250 (by decide) rfl (by decide) (fm_dec dtX11_readsStep 32 rfl) ?_
  refine pv_iconst (pc := 59) (v := 1) (by decide) (fm_dec dtX11_readsStep 33 rfl) ?_
  refine pv_iadd (pc := 60) (fm_dec dtX11_readsStep 34 rfl) ?_
  refine pv_putI (k := 0) (j := 26) (ci := 11) (pc := 61) pfl_X11_250 (by decide) rfl (by decide) (fm_dec dtX11_readsStep 35 rfl) ?_
  refine pv_aloadn (pc := 64) (n := 2) 2 rfl rfl (fm_dec dtX11_readsStep 36 rfl) ?_
  refine pv_iconst (pc := 65) (v := 0) (by decide) (fm_dec dtX11_readsStep 37 rfl) ?_
  refine pv_iloadn (pc := 66) (n := 1) 1 rfl rfl (fm_dec dtX11_readsStep 38 rfl) ?_
  refine pv_iast (k := (423 + b)) (n := 3) (pc := 67) (rw_step.2.2.2 _ hb80).2.2.1 (rw_step.2.2.2 _ hb80).2.2.2.1 (rw_step.2.2.2 _ hb80).2.2.2.2 (fm_inl (by decide)) (fm_dec dtX11_readsStep 39 rfl) ?_
  refine pv_iloadn (pc := 68) (n := 1) 1 rfl rfl (fm_dec dtX11_readsStep 40 rfl) ?_
  refine pv_iconst (pc := 69) (v := 3) (by decide) (fm_dec dtX11_readsStep 41 rfl) ?_
  refine pv_icmp_ge (pc := 70) 89 (by decide) (fm_dec dtX11_readsStep 42 rfl) (fun hc70 => by exfalso; revert hc70; decide) (fun _ => ?_)
  refine pv_aloadn (pc := 73) (n := 2) 2 rfl rfl (fm_dec dtX11_readsStep 43 rfl) ?_
  refine pv_iconst (pc := 74) (v := 1) (by decide) (fm_dec dtX11_readsStep 44 rfl) ?_
  refine pv_aloadn (pc := 75) (n := 0) 0 rfl rfl (fm_dec dtX11_readsStep 45 rfl) ?_
  refine pv_iconst (pc := 76) (v := 0) (by decide) (fm_dec dtX11_readsStep 46 rfl) ?_
  refine pv_aloadn (pc := 77) (n := 0) 0 rfl rfl (fm_dec dtX11_readsStep 47 rfl) ?_
  refine pv_getR (k := 0) (j := 12) (ci := 11) (pc := 78) 4 rfl (by decide) pfl_X11_23 (by decide) rfl (by decide) (fm_dec dtX11_readsStep 48 rfl) ?_
  refine pv_iconst (pc := 81) (v := 0) (by decide) (fm_dec dtX11_readsStep 49 rfl) ?_
  refine pv_iald (k := 4) (n := 6) (pc := 82) (by decide) rfl rfl (fm_inl (by decide)) (fm_dec dtX11_readsStep 50 rfl) ?_
  refine pv_iconst (pc := 83) (v := 1) (by decide) (fm_dec dtX11_readsStep 51 rfl) ?_
  refine pv_isub (pc := 84) (fm_dec dtX11_readsStep 52 rfl) ?_
  refine pv_invV2 (k := 0) (d' := 2) (pc := 85) pcv_X11_163 (by decide) rfl (Nat.le_of_ble_eq_true rfl) (by omega) (fm_dec dtX11_readsStep 53 rfl) ?_
  refine r_num (M := rsM M x40 2 b) (tx := tx) (n := n) (p := sp tW tx a) 0 ((l : Int) - 1) ⟨by decide, (by have h9 : (rsM M x40 2 b).1 4 0 = M.1 4 0 := (by unfold rsM; rw [fmI_k _ _ (by omega), fmI_k _ _ (by decide), fmI_k _ _ (by decide)]); exact (congrArg (fun y => (y - 1 : Int32).toInt) h9).trans (lh_hi hP.2.2.2.2.2.2.2.1 hP.2.2.2.2.2.2.2.2)), (by have := hP.2.2.2.2.2.2.2.2; omega)⟩ (rsM_S hP hx40 hw40).1 (rsM_S hP hx40 hw40).2 (fun M85 v85 q85 w85 e85 hw85 k85 => ?_) (fun Mb kb ab eb hB => ?_)  
  · refine pv_then1 ?_
    refine pv_iast (k := (423 + b)) (n := 3) (pc := 88) (rw_step.2.2.2 _ hb80).2.2.1 (rw_step.2.2.2 _ hb80).2.2.2.1 (rw_step.2.2.2 _ hb80).2.2.2.2 (fm_inl (by decide)) (fm_dec dtX11_readsStep 54 rfl) ?_
    refine pv_iloadn (pc := 89) (n := 1) 1 rfl rfl (fm_dec dtX11_readsStep 55 rfl) ?_
    refine pv_iconst (pc := 90) (v := 4) (by decide) (fm_dec dtX11_readsStep 56 rfl) ?_
    refine pv_icmp_ne (pc := 91) 161 (by decide) (fm_dec dtX11_readsStep 57 rfl) (fun _ => ?_) (fun hc91 => by exfalso; revert hc91; decide)
    refine pv_aloadn (pc := 161) (n := 2) 2 rfl rfl (fm_dec dtX11_readsStep 93 rfl) ?_
    refine pv_iconst (pc := 162) (v := 2) (by decide) (fm_dec dtX11_readsStep 94 rfl) ?_
    refine pv_aloadn (pc := 163) (n := 0) 0 rfl rfl (fm_dec dtX11_readsStep 95 rfl) ?_
    refine pv_getI (k := 0) (j := 26) (ci := 11) (pc := 164) pfl_X11_250 (by decide) rfl (by decide) (fm_dec dtX11_readsStep 96 rfl) ?_
    refine pv_iast (k := (423 + b)) (n := 3) (pc := 167) (rw_step.2.2.2 _ hb80).2.2.1 (rw_step.2.2.2 _ hb80).2.2.2.1 (rw_step.2.2.2 _ hb80).2.2.2.2 (fm_inl (by decide)) (fm_dec dtX11_readsStep 97 rfl) ?_
    refine pv_aloadn (pc := 168) (n := 0) 0 rfl rfl (fm_dec dtX11_readsStep 98 rfl) ?_
    refine pv_bipush (pc := 169) (v := 59) (by decide) (fm_dec dtX11_readsStep 99 rfl) ?_
    refine pv_invV1 (k := 0) (d' := 2) (pc := 171) pcv_X11_173 (by decide) rfl (Nat.le_of_ble_eq_true rfl) (by omega) (fm_dec dtX11_readsStep 100 rfl) ?_
    refine r_sign (tx := tx) (n := n) (p := q85) 59 ⟨by decide, by decide⟩ (by (repeat with_reducible refine rS.row ?_ ⟨by omega, by omega⟩); exact k85.1) (by (repeat with_reducible refine f0.row ?_ (by omega)); exact k85.2.1) (fun M171 q171 e171 k171 => ?_) (fun Mb kb ab eb hB => ?_)  
    · refine pv_then0 ?_
      exact pv_return (pc := 174) rfl (fm_dec dtX11_readsStep 101 rfl) (hok _ _ _ (by simp only [spSi, spBind, e85, e171]) (rs_one (k := 2) hP (by decide) k85.2.2 k171.2.2 hw85 k171.1 k171.2.1))
    · refine pv_then0 ?_
      have hB9 := srBad.of ((((rsM_fr hb80).rd k85.2.2).row ⟨Nat.le_refl _, by omega⟩).row ⟨Nat.le_refl _, by omega⟩) hB
      exact pv_return (pc := 174) rfl (fm_dec dtX11_readsStep 101 rfl) (hbad _ kb ab (by simp only [spSi, spBind, e85, eb]) hB9)
  · refine pv_then1 ?_
    have hB9 := srBad.of (rsM_fr hb80) hB
    refine pv_iast (k := (423 + b)) (n := 3) (pc := 88) (rw_step.2.2.2 _ hb80).2.2.1 (rw_step.2.2.2 _ hb80).2.2.2.1 (rw_step.2.2.2 _ hb80).2.2.2.2 (fm_inl (by decide)) (fm_dec dtX11_readsStep 54 rfl) ?_
    refine pv_iloadn (pc := 89) (n := 1) 1 rfl rfl (fm_dec dtX11_readsStep 55 rfl) ?_
    refine pv_iconst (pc := 90) (v := 4) (by decide) (fm_dec dtX11_readsStep 56 rfl) ?_
    refine pv_icmp_ne (pc := 91) 161 (by decide) (fm_dec dtX11_readsStep 57 rfl) (fun _ => ?_) (fun hc91 => by exfalso; revert hc91; decide)
    refine pv_aloadn (pc := 161) (n := 2) 2 rfl rfl (fm_dec dtX11_readsStep 93 rfl) ?_
    refine pv_iconst (pc := 162) (v := 2) (by decide) (fm_dec dtX11_readsStep 94 rfl) ?_
    refine pv_aloadn (pc := 163) (n := 0) 0 rfl rfl (fm_dec dtX11_readsStep 95 rfl) ?_
    refine pv_getI (k := 0) (j := 26) (ci := 11) (pc := 164) pfl_X11_250 (by decide) rfl (by decide) (fm_dec dtX11_readsStep 96 rfl) ?_
    refine pv_iast (k := (423 + b)) (n := 3) (pc := 167) (rw_step.2.2.2 _ hb80).2.2.1 (rw_step.2.2.2 _ hb80).2.2.2.1 (rw_step.2.2.2 _ hb80).2.2.2.2 (fm_inl (by decide)) (fm_dec dtX11_readsStep 97 rfl) ?_
    refine pv_aloadn (pc := 168) (n := 0) 0 rfl rfl (fm_dec dtX11_readsStep 98 rfl) ?_
    refine pv_bipush (pc := 169) (v := 59) (by decide) (fm_dec dtX11_readsStep 99 rfl) ?_
    refine pv_invV1 (k := 0) (d' := 2) (pc := 171) pcv_X11_173 (by decide) rfl (Nat.le_of_ble_eq_true rfl) (by omega) (fm_dec dtX11_readsStep 100 rfl) ?_
    refine c_sign1 (srBad.nz (M := M) (tx := tx) (n := n) (k := kb) (a := ab) (b := b) (by (repeat with_reducible refine srBad.row ⟨by omega, by omega⟩ ?_); exact hB9)) ?_
    refine pv_then0 ?_
    exact pv_return (pc := 174) rfl (fm_dec dtX11_readsStep 101 rfl) (hbad _ kb ab (by simp only [spSi, spBind, eb]) (by (repeat with_reducible refine srBad.row ⟨by omega, by omega⟩ ?_); exact hB9))
set_option maxRecDepth 20000 in
theorem rs5_3 {Q : fmR → fmM → Prop} {M : fmM} {tx : tX} {n a o b l : Nat} {v2 : Option Value} (hP : srPre M tx n a o b l) (hok : ∀ (M' : fmM) (ss : tS) (q' : Nat), spWk tx b (sp tW tx a) = .inr (ss, q') → srOk M M' tx n q' b ss → Q (.inl none) M') (hbad : ∀ (M' : fmM) (k a' : Nat), spWk tx b (sp tW tx a) = .inl (k, a') → srBad M M' tx n k a' b → Q (.inl none) M') : pvEv Tm (5 + (6 - o)) qX11_readsStep 5 [some (.ref 0), some (.int 3), v2] [] M Q := by
  refine pv_iloadn (pc := 5) (n := 1) 1 rfl rfl (fm_dec dtX11_readsStep 3 rfl) ?_
  refine pv_iconst (pc := 6) (v := (-1)) (by decide) (fm_dec dtX11_readsStep 4 rfl) ?_
  refine pv_icmp_ne (pc := 7) 19 (by decide) (fm_dec dtX11_readsStep 5 rfl) (fun _ => ?_) (fun hc7 => by exfalso; revert hc7; decide)
  refine pv_iloadn (pc := 19) (n := 1) 1 rfl rfl (fm_dec dtX11_readsStep 11 rfl) ?_
  refine pv_iconst (pc := 20) (v := 4) (by decide) (fm_dec dtX11_readsStep 12 rfl) ?_
  refine pv_icmp_ne (pc := 21) 32 (by decide) (fm_dec dtX11_readsStep 13 rfl) (fun _ => ?_) (fun hc21 => by exfalso; revert hc21; decide)
  refine pv_aloadn (pc := 32) (n := 0) 0 rfl rfl (fm_dec dtX11_readsStep 18 rfl) ?_
  refine pv_getI (k := 0) (j := 5) (ci := 11) (pc := 33) pfl_X11_117 (by decide) rfl (by decide) (fm_dec dtX11_readsStep 19 rfl) ?_
  refine pv_if_eq (pc := 36) 40 (by decide) (fm_dec dtX11_readsStep 20 rfl) (fun _ => ?_) (fun hc36 => by exfalso; exact hc36 hP.2.1)
  refine pv_aloadn (pc := 40) (n := 0) 0 rfl rfl (fm_dec dtX11_readsStep 22 rfl) ?_
  refine pv_invV0 (k := 0) (d' := 1) (pc := 41) pcv_X11_154 (by decide) rfl (Nat.le_of_ble_eq_true rfl) (by omega) (fm_dec dtX11_readsStep 23 rfl) ?_
  refine c_skipWord hP.1 (fun x40 hx40 => ?_)
  refine pv_then0 ?_
  have hb80 := hP.b
  have hw40 := sp_le (p := a) tW_1 hP.1.2.2.2.1 hP.1.2.2.1
  refine pv_aloadn (pc := 44) (n := 0) 0 rfl rfl (fm_dec dtX11_readsStep 24 rfl) ?_
  refine pv_getR (k := 0) (j := 25) (ci := 11) (pc := 45) 24 rfl (by decide) pfl_X11_58 (by decide) rfl (by decide) (fm_dec dtX11_readsStep 25 rfl) ?_
  refine pv_aloadn (pc := 48) (n := 0) 0 rfl rfl (fm_dec dtX11_readsStep 26 rfl) ?_
  refine pv_getI (k := 0) (j := 26) (ci := 11) (pc := 49) pfl_X11_250 (by decide) rfl (by decide) (fm_dec dtX11_readsStep 27 rfl) ?_
  refine pv_aald (k := 24) (n := 80) (r := (423 + b)) (pc := 52) (by decide) (Or.inr (Or.inr rfl)) rfl (rw_step.inb hP.2.2.2.2.1 hb80) (rw_step.at hP.2.2.2.2.1 hb80) (rw_step.2.2.2 _ hb80).2.1 (fm_dec dtX11_readsStep 28 rfl) ?_
  refine pv_astoren (pc := 53) (n := 2) 2 rfl (by decide) rfl (fm_dec dtX11_readsStep 29 rfl) ?_
  dsimp only [List.set_cons_zero, List.set_cons_succ]
  refine pv_aloadn (pc := 54) (n := 0) 0 rfl rfl (fm_dec dtX11_readsStep 30 rfl) ?_
  refine pv_dup (pc := 55) rfl (fm_dec dtX11_readsStep 31 rfl) ?_
  refine pv_getI (k := 0) (j := 26) (ci := 11) (pc := 56) pfl_X11_250 (by decide) rfl (by decide) (fm_dec dtX11_readsStep 32 rfl) ?_
  refine pv_iconst (pc := 59) (v := 1) (by decide) (fm_dec dtX11_readsStep 33 rfl) ?_
  refine pv_iadd (pc := 60) (fm_dec dtX11_readsStep 34 rfl) ?_
  refine pv_putI (k := 0) (j := 26) (ci := 11) (pc := 61) pfl_X11_250 (by decide) rfl (by decide) (fm_dec dtX11_readsStep 35 rfl) ?_
  refine pv_aloadn (pc := 64) (n := 2) 2 rfl rfl (fm_dec dtX11_readsStep 36 rfl) ?_
  refine pv_iconst (pc := 65) (v := 0) (by decide) (fm_dec dtX11_readsStep 37 rfl) ?_
  refine pv_iloadn (pc := 66) (n := 1) 1 rfl rfl (fm_dec dtX11_readsStep 38 rfl) ?_
  refine pv_iast (k := (423 + b)) (n := 3) (pc := 67) (rw_step.2.2.2 _ hb80).2.2.1 (rw_step.2.2.2 _ hb80).2.2.2.1 (rw_step.2.2.2 _ hb80).2.2.2.2 (fm_inl (by decide)) (fm_dec dtX11_readsStep 39 rfl) ?_
  refine pv_iloadn (pc := 68) (n := 1) 1 rfl rfl (fm_dec dtX11_readsStep 40 rfl) ?_
  refine pv_iconst (pc := 69) (v := 3) (by decide) (fm_dec dtX11_readsStep 41 rfl) ?_
  refine pv_icmp_ge (pc := 70) 89 (by decide) (fm_dec dtX11_readsStep 42 rfl) (fun _ => ?_) (fun hc70 => by exfalso; revert hc70; decide)
  refine pv_iloadn (pc := 89) (n := 1) 1 rfl rfl (fm_dec dtX11_readsStep 55 rfl) ?_
  refine pv_iconst (pc := 90) (v := 4) (by decide) (fm_dec dtX11_readsStep 56 rfl) ?_
  refine pv_icmp_ne (pc := 91) 161 (by decide) (fm_dec dtX11_readsStep 57 rfl) (fun _ => ?_) (fun hc91 => by exfalso; revert hc91; decide)
  refine pv_aloadn (pc := 161) (n := 2) 2 rfl rfl (fm_dec dtX11_readsStep 93 rfl) ?_
  refine pv_iconst (pc := 162) (v := 2) (by decide) (fm_dec dtX11_readsStep 94 rfl) ?_
  refine pv_aloadn (pc := 163) (n := 0) 0 rfl rfl (fm_dec dtX11_readsStep 95 rfl) ?_
  refine pv_getI (k := 0) (j := 26) (ci := 11) (pc := 164) pfl_X11_250 (by decide) rfl (by decide) (fm_dec dtX11_readsStep 96 rfl) ?_
  refine pv_iast (k := (423 + b)) (n := 3) (pc := 167) (rw_step.2.2.2 _ hb80).2.2.1 (rw_step.2.2.2 _ hb80).2.2.2.1 (rw_step.2.2.2 _ hb80).2.2.2.2 (fm_inl (by decide)) (fm_dec dtX11_readsStep 97 rfl) ?_
  refine pv_aloadn (pc := 168) (n := 0) 0 rfl rfl (fm_dec dtX11_readsStep 98 rfl) ?_
  refine pv_bipush (pc := 169) (v := 59) (by decide) (fm_dec dtX11_readsStep 99 rfl) ?_
  refine pv_invV1 (k := 0) (d' := 2) (pc := 171) pcv_X11_173 (by decide) rfl (Nat.le_of_ble_eq_true rfl) (by omega) (fm_dec dtX11_readsStep 100 rfl) ?_
  refine r_sign (M := fmI (rsM M x40 3 b) (423 + b) 2 ((rsM M x40 3 b).1 0 26)) (tx := tx) (n := n) (p := sp tW tx a) 59 ⟨by decide, by decide⟩ ((rsM_S hP hx40 hw40).1.row ⟨by omega, by omega⟩) (f0.row (rsM_S hP hx40 hw40).2 (by omega)) (fun M171 q171 e171 k171 => ?_) (fun Mb kb ab eb hB => ?_)  
  · refine pv_then0 ?_
    exact pv_return (pc := 174) rfl (fm_dec dtX11_readsStep 101 rfl) (hok _ _ _ (by simp only [spWk, spBind, e171]) (rs_wk hP k171.2.2 k171.1 k171.2.1))
  · refine pv_then0 ?_
    have hB9 := srBad.of ((rsM_fr hb80).row ⟨Nat.le_refl _, by omega⟩) hB
    exact pv_return (pc := 174) rfl (fm_dec dtX11_readsStep 101 rfl) (hbad _ kb ab (by simp only [spWk, spBind, eb]) hB9)
set_option maxRecDepth 20000 in
theorem rs5_n {Q : fmR → fmM → Prop} {M : fmM} {tx : tX} {n a o b l : Nat} {v2 : Option Value} (hP : srPre M tx n a o b l) (hbad : ∀ M' : fmM, srBad M M' tx n 1 a b → Q (.inl none) M') : pvEv Tm (5 + (6 - o)) qX11_readsStep 5 [some (.ref 0), some (.int (-1)), v2] [] M Q := by
  refine pv_iloadn (pc := 5) (n := 1) 1 rfl rfl (fm_dec dtX11_readsStep 3 rfl) ?_
  refine pv_iconst (pc := 6) (v := (-1)) (by decide) (fm_dec dtX11_readsStep 4 rfl) ?_
  refine pv_icmp_ne (pc := 7) 19 (by decide) (fm_dec dtX11_readsStep 5 rfl) (fun hc7 => by exfalso; revert hc7; decide) (fun _ => ?_)
  refine pv_aloadn (pc := 10) (n := 0) 0 rfl rfl (fm_dec dtX11_readsStep 6 rfl) ?_
  refine pv_iconst (pc := 11) (v := 1) (by decide) (fm_dec dtX11_readsStep 7 rfl) ?_
  refine pv_aloadn (pc := 12) (n := 0) 0 rfl rfl (fm_dec dtX11_readsStep 8 rfl) ?_
  refine pv_getI (k := 0) (j := 4) (ci := 11) (pc := 13) pfl_X11_110 (by decide) rfl (by decide) (fm_dec dtX11_readsStep 9 rfl) ?_
  refine pv_invV2 (k := 0) (d' := 0) (pc := 16) pcv_X11_130 (by decide) rfl (Nat.le_of_ble_eq_true rfl) (by omega) (fm_dec dtX11_readsStep 10 rfl) ?_
  refine c_wrongAt (fun _ => ?_) (fun h9 => absurd hP.2.1 h9) 
  refine pv_then0 ?_
  refine pv_iloadn (pc := 19) (n := 1) 1 rfl rfl (fm_dec dtX11_readsStep 11 rfl) ?_
  refine pv_iconst (pc := 20) (v := 4) (by decide) (fm_dec dtX11_readsStep 12 rfl) ?_
  refine pv_icmp_ne (pc := 21) 32 (by decide) (fm_dec dtX11_readsStep 13 rfl) (fun _ => ?_) (fun hc21 => by exfalso; revert hc21; decide)
  refine pv_aloadn (pc := 32) (n := 0) 0 rfl rfl (fm_dec dtX11_readsStep 18 rfl) ?_
  refine pv_getI (k := 0) (j := 5) (ci := 11) (pc := 33) pfl_X11_117 (by decide) rfl (by decide) (fm_dec dtX11_readsStep 19 rfl) ?_
  refine pv_if_eq (pc := 36) 40 (by decide) (fm_dec dtX11_readsStep 20 rfl) (fun hc36 => by exfalso; exact absurd (show (1 : Int32) = 0 from hc36) (by decide)) (fun _ => ?_)
  exact pv_return (pc := 39) rfl (fm_dec dtX11_readsStep 21 rfl) (hbad _ (srBad.of (srFr.refl b M) (rdBad.at0 hP.1 (by decide) hP.1.2.1 (by decide))))
theorem spSt_93 {tx : tX} {l f o b p : Nat} (h : tx p = 93) : spSt tx l (f + 1) 1 o b p = .inr ([], p) := if_pos h
theorem spSt_nx {tx : tX} {l f o b p : Nat} (h : ¬ tx p = 93) : spSt tx l (f + 1) 1 o b p = spBind (spSt tx l f 0 o b p) fun ss q => spBind (spSt tx l f 1 o (b + ss.length) (sk tx q)) fun ts q => .inr (ss ++ ts, q) := if_neg h
theorem srOk.nil {M : fmM} {tx : tX} {n p o b l : Nat} (h : srPre M tx n p o b l) : srOk M M tx n p b [] := ⟨h.1, h.2.1, rfl, h.2.2.2.2.1, fun i s hi => (by cases hi), srFr.refl b M⟩
theorem srOk.app {M M1 M2 M3 : fmM} {tx : tX} {n q1 q2 b : Nat} {ss ts : tS} (h1 : srOk M M1 tx n q1 b ss) (hr : rdFr M1 M2) (h8 : M2.1 0 8 = M1.1 0 8) (h2 : srOk M2 M3 tx n q2 (b + ss.length) ts) : srOk M M3 tx n q2 b (ss ++ ts) := by
  obtain ⟨a1, a2, a3, a4, a5, a6⟩ := h1
  obtain ⟨b1, b2, b3, b4, b5, b6⟩ := h2
  refine ⟨b1, b2, (b3.trans h8).trans a3, ?_, fun i s hi => ?_, (a6.rd hr).trans b6 (by omega)⟩
  · rw [b4, List.length_append]
    congr 1
    omega
  · by_cases e : i < ss.length
    · rw [List.getElem?_append_left e] at hi
      have e9 : ∀ j, M3.1 (423 + b + i) j = M1.1 (423 + b + i) j := fun j => (b6.1 _ j (by omega) (by omega)).trans (hr.1 _ j (by omega))
      rw [e9, e9, e9]
      exact a5 i s hi
    · rw [List.getElem?_append_right (by omega)] at hi
      have h9 := b5 (i - ss.length) s hi
      rw [show 423 + (b + ss.length) + (i - ss.length) = 423 + b + i by omega] at h9
      exact h9
theorem srPre.next {M M1 M2 : fmM} {tx : tX} {n p q o b l : Nat} {ss : tS} (h : srPre M tx n p o b l) (h1 : srOk M M1 tx n q b ss) (hq : p + 2 * ss.length ≤ q) (h2 : rdOk M1 M2 tx n (sk tx q)) : srPre M2 tx n (sk tx q) o (b + ss.length) l := by
  obtain ⟨a1, a2, a3, a4, a5, a6, a7, a8, a9⟩ := h
  have g : q ≤ sk tx q := sp_ge q
  refine ⟨h2.1, h2.2.1, ?_, a4, ?_, by omega, a7, ?_, a9⟩
  · rw [h2.2.2.2.1 8 (by decide) (by decide) (by decide), h1.2.2.1]
    exact a3
  · rw [h2.2.2.2.1 26 (by decide) (by decide) (by decide)]
    exact h1.2.2.2.1
  · rw [h2.2.2.1 4 0 (by decide), h1.2.2.2.2.2.1 4 0 (by decide) (by omega)]
    exact a8
def srG (tx : tX) (n l f : Nat) : Prop := ∀ (o b p : Nat) (M : fmM) (Q : fmR → fmM → Prop), srPre M tx n p o b l → ¬ spSt tx l f 0 o b p = .inl (9, 0) → (∀ (M' : fmM) (ss : tS) (q : Nat), spSt tx l f 0 o b p = .inr (ss, q) → srOk M M' tx n q b ss → Q (.inl none) M') → (∀ (M' : fmM) (k a : Nat), spSt tx l f 0 o b p = .inl (k, a) → srBad M M' tx n k a b → Q (.inl none) M') → pvGood Tm (5 + (6 - o)) qX11_readsStep [.ref 0] M Q
def srLp (tx : tX) (n l f : Nat) : Prop := ∀ (o b p r0 : Nat) (M : fmM) (Q : fmR → fmM → Prop), o < 6 → srPre M tx n p (o + 1) b l → ¬ spSt tx l f 1 (o + 1) b p = .inl (9, 0) → (∀ (M' : fmM) (ss : tS) (q : Nat), spSt tx l f 1 (o + 1) b p = .inr (ss, q) → srOk M M' tx n q b ss → pvEv Tm (5 + (6 - o)) qX11_readsStep 145 [some (.ref 0), some (.int 4), some (.ref r0)] [] M' Q) → (∀ (M' : fmM) (k a : Nat), spSt tx l f 1 (o + 1) b p = .inl (k, a) → srBad M M' tx n k a b → pvEv Tm (5 + (6 - o)) qX11_readsStep 145 [some (.ref 0), some (.int 4), some (.ref r0)] [] M' Q) → pvEv Tm (5 + (6 - o)) qX11_readsStep 114 [some (.ref 0), some (.int 4), some (.ref r0)] [] M Q
set_option maxRecDepth 20000 in
theorem rs_o1 {Q : fmR → fmM → Prop} {M : fmM} {o r0 : Nat} (hf : ¬ M.1 0 5 = 0) (hq : pvEv Tm (5 + (6 - o)) qX11_readsStep 145 [some (.ref 0), some (.int 4), some (.ref r0)] [] M Q) : pvEv Tm (5 + (6 - o)) qX11_readsStep 114 [some (.ref 0), some (.int 4), some (.ref r0)] [] M Q := by
  refine pv_aloadn (pc := 114) (n := 0) 0 rfl rfl (fm_dec dtX11_readsStep 70 rfl) ?_
  refine pv_getI (k := 0) (j := 5) (ci := 11) (pc := 115) pfl_X11_117 (by decide) rfl (by decide) (fm_dec dtX11_readsStep 71 rfl) ?_
  refine pv_if_ne (pc := 118) 145 (by decide) (fm_dec dtX11_readsStep 72 rfl) (fun _ => ?_) (fun hc118 => by exfalso; exact hf hc118)
  exact hq
set_option maxRecDepth 20000 in
theorem rs_loop {tx : tX} {n l f : Nat} (ihG : srG tx n l f) (ihL : srLp tx n l f) : srLp tx n l (f + 1) := by
  intro o b p r0 M Q ho hP hne hok hbad
  refine pv_aloadn (pc := 114) (n := 0) 0 rfl rfl (fm_dec dtX11_readsStep 70 rfl) ?_
  refine pv_getI (k := 0) (j := 5) (ci := 11) (pc := 115) pfl_X11_117 (by decide) rfl (by decide) (fm_dec dtX11_readsStep 71 rfl) ?_
  refine pv_if_ne (pc := 118) 145 (by decide) (fm_dec dtX11_readsStep 72 rfl) (fun hc118 => by exfalso; exact hc118 hP.2.1) (fun _ => ?_)
  refine pv_aloadn (pc := 121) (n := 0) 0 rfl rfl (fm_dec dtX11_readsStep 73 rfl) ?_
  refine pv_aloadn (pc := 122) (n := 0) 0 rfl rfl (fm_dec dtX11_readsStep 74 rfl) ?_
  refine pv_getI (k := 0) (j := 4) (ci := 11) (pc := 123) pfl_X11_110 (by decide) rfl (by decide) (fm_dec dtX11_readsStep 75 rfl) ?_
  refine pv_invV1 (k := 0) (d' := 0) (pc := 126) pcv_X11_113 (by decide) rfl (Nat.le_of_ble_eq_true rfl) (by omega) (fm_dec dtX11_readsStep 76 rfl) ?_
  refine c_byteAt hP.1 p hP.1.2.1 (fun v126 hv126 => ?_)
  refine pv_then1 ?_
  refine pv_bipush (pc := 129) (v := 93) (by decide) (fm_dec dtX11_readsStep 77 rfl) ?_
  refine pv_icmp_eq (pc := 131) 145 (by decide) (fm_dec dtX11_readsStep 78 rfl) (fun hc131 => ?_) (fun hc131 => ?_)
  · exact hok M [] p (spSt_93 (by rw [← hv126, hc131]; decide)) (srOk.nil hP)
  · have h93 : ¬ tx p = 93 := fun h9 => hc131 (i32_ext (hv126.trans (h9.trans (by decide))))
    have eN := spSt_nx (l := l) (f := f) (o := o + 1) (b := b) h93
    have hne0 : ¬ spSt tx l f 0 (o + 1) b p = .inl (9, 0) := fun h9 => hne (by rw [eN, h9]; rfl)
    refine pv_aloadn (pc := 134) (n := 0) 0 rfl rfl (fm_dec dtX11_readsStep 79 rfl) ?_
    refine pv_invV0 (k := 0) (d' := (5 + (6 - (o + 1)))) (pc := 135) pcv_X11_253 (by decide) rfl (Nat.le_of_ble_eq_true rfl) (by omega) (fm_dec dtX11_readsStep 80 rfl) ?_
    refine ihG (o + 1) b p M _ hP hne0 (fun M135 ss q135 e135 k135 => ?_) (fun Mb kb ab eb hB => ?_)  
    · refine pv_then0 ?_
      refine pv_aloadn (pc := 138) (n := 0) 0 rfl rfl (fm_dec dtX11_readsStep 81 rfl) ?_
      refine pv_invV0 (k := 0) (d' := 1) (pc := 139) pcv_X11_123 (by decide) rfl (Nat.le_of_ble_eq_true rfl) (by omega) (fm_dec dtX11_readsStep 82 rfl) ?_
      refine r_blanks k135.1 k135.2.1 (fun M139 k139 => ?_)
      refine pv_then0 ?_
      refine pv_goto (pc := 142) 114 (by decide) (fm_dec dtX11_readsStep 83 rfl) ?_
      have hl := spSt_len hP.1.2.2.2.1 _ _ _ _ _ _ _ hP.1.2.2.1 e135
      have eB : spSt tx l (f + 1) 1 (o + 1) b p = spBind (spSt tx l f 1 (o + 1) (b + ss.length) (sk tx q135)) fun ts q => .inr (ss ++ ts, q) := (by rw [eN, e135]; rfl)
      refine ihL o (b + ss.length) (sk tx q135) r0 M139 Q ho (hP.next k135 hl.1 k139) (fun h9 => hne (by rw [eB, h9]; rfl)) (fun M' ts q e k => hok M' (ss ++ ts) q (by rw [eB, e]; rfl) (k135.app k139.2.2 (k139.2.2.2.1 8 (by decide) (by decide) (by decide)) k)) (fun M' k a e hb => hbad M' k a (by rw [eB, e]; rfl) ⟨hb.1, hb.2.1, hb.2.2.1, hb.2.2.2.1, (k135.2.2.2.2.2.rd k139.2.2).trans hb.2.2.2.2 (by omega)⟩)
    · refine pv_then0 ?_
      obtain ⟨qb, hSb⟩ := hB.1
      refine pv_aloadn (pc := 138) (n := 0) 0 rfl rfl (fm_dec dtX11_readsStep 81 rfl) ?_
      refine pv_invV0 (k := 0) (d' := 1) (pc := 139) pcv_X11_123 (by decide) rfl (Nat.le_of_ble_eq_true rfl) (by omega) (fm_dec dtX11_readsStep 82 rfl) ?_
      refine c_blanks hSb (fun x139 hx139 => ?_)
      refine pv_then0 ?_
      refine pv_goto (pc := 142) 114 (by decide) (fm_dec dtX11_readsStep 83 rfl) ?_
      exact rs_o1 (show ¬ (fmI Mb 0 4 x139).1 0 5 = 0 from hB.nz) (hbad _ kb ab (by rw [eN, eb]; rfl) ⟨⟨_, hSb.bl hx139⟩, hB.2.1, hB.2.2.1, hB.2.2.2.1, hB.2.2.2.2.c0 (Or.inl rfl)⟩)
set_option maxRecDepth 20000 in
theorem rs_t1 {Q : fmR → fmM → Prop} {M0 M : fmM} {tx : tX} {n kb ab b o : Nat} (hb80 : b < 80) (hB9 : srBad M0 M tx n kb ab b) (hq : ∀ M' : fmM, srBad M0 M' tx n kb ab b → Q (.inl none) M') : pvEv Tm (5 + (6 - o)) qX11_readsStep 145 [some (.ref 0), some (.int 4), some (.ref (423 + b))] [] M Q := by
  refine pv_aloadn (pc := 145) (n := 0) 0 rfl rfl (fm_dec dtX11_readsStep 84 rfl) ?_
  refine pv_bipush (pc := 146) (v := 93) (by decide) (fm_dec dtX11_readsStep 85 rfl) ?_
  refine pv_invV1 (k := 0) (d' := 2) (pc := 148) pcv_X11_173 (by decide) rfl (Nat.le_of_ble_eq_true rfl) (by omega) (fm_dec dtX11_readsStep 86 rfl) ?_
  refine c_sign1 (srBad.nz (M := M0) (tx := tx) (n := n) (k := kb) (a := ab) (b := b) hB9) ?_
  refine pv_then0 ?_
  refine pv_aloadn (pc := 151) (n := 0) 0 rfl rfl (fm_dec dtX11_readsStep 87 rfl) ?_
  refine pv_dup (pc := 152) rfl (fm_dec dtX11_readsStep 88 rfl) ?_
  refine pv_getI (k := 0) (j := 8) (ci := 11) (pc := 153) pfl_X11_160 (by decide) rfl (by decide) (fm_dec dtX11_readsStep 89 rfl) ?_
  refine pv_iconst (pc := 156) (v := 1) (by decide) (fm_dec dtX11_readsStep 90 rfl) ?_
  refine pv_isub (pc := 157) (fm_dec dtX11_readsStep 91 rfl) ?_
  refine pv_putI (k := 0) (j := 8) (ci := 11) (pc := 158) pfl_X11_160 (by decide) rfl (by decide) (fm_dec dtX11_readsStep 92 rfl) ?_
  refine pv_aloadn (pc := 161) (n := 2) 2 rfl rfl (fm_dec dtX11_readsStep 93 rfl) ?_
  refine pv_iconst (pc := 162) (v := 2) (by decide) (fm_dec dtX11_readsStep 94 rfl) ?_
  refine pv_aloadn (pc := 163) (n := 0) 0 rfl rfl (fm_dec dtX11_readsStep 95 rfl) ?_
  refine pv_getI (k := 0) (j := 26) (ci := 11) (pc := 164) pfl_X11_250 (by decide) rfl (by decide) (fm_dec dtX11_readsStep 96 rfl) ?_
  refine pv_iast (k := (423 + b)) (n := 3) (pc := 167) (rw_step.2.2.2 _ hb80).2.2.1 (rw_step.2.2.2 _ hb80).2.2.2.1 (rw_step.2.2.2 _ hb80).2.2.2.2 (fm_inl (by decide)) (fm_dec dtX11_readsStep 97 rfl) ?_
  refine pv_aloadn (pc := 168) (n := 0) 0 rfl rfl (fm_dec dtX11_readsStep 98 rfl) ?_
  refine pv_bipush (pc := 169) (v := 59) (by decide) (fm_dec dtX11_readsStep 99 rfl) ?_
  refine pv_invV1 (k := 0) (d' := 2) (pc := 171) pcv_X11_173 (by decide) rfl (Nat.le_of_ble_eq_true rfl) (by omega) (fm_dec dtX11_readsStep 100 rfl) ?_
  refine c_sign1 (srBad.nz (M := M0) (tx := tx) (n := n) (k := kb) (a := ab) (b := b) (srBad.row ⟨by omega, by omega⟩ hB9.c8)) ?_
  refine pv_then0 ?_
  exact pv_return (pc := 174) rfl (fm_dec dtX11_readsStep 101 rfl) (hq _ (srBad.row ⟨by omega, by omega⟩ hB9.c8))
/-- again, all of it, is read -/
theorem rs_ag {M M100 M107 M111 M145 M148 M171 : fmM} {x w : Int32} {tx : tX} {n q q' o b l v : Nat} {ss : tS} (hb : b < 80) (f1 : rdFr (rsM (fmI M 0 8 (M.1 0 8 + 1)) x 4 b) M100) (f2 : rdFr (fmI M100 (423 + b) 1 w) M107) (f3 : rdFr M107 M111) (hk : srOk M111 M145 tx n q (b + 1) ss) (f4 : rdFr M145 M148) (f5 : rdFr (fmI (fmI M148 0 8 (M148.1 0 8 - 1)) (423 + b) 2 ((fmI M148 0 8 (M148.1 0 8 - 1)).1 0 26)) M171) (hw : w.toInt = v) (hS : rS M171 tx n q') (hf : M171.1 0 5 = 0) : srOk M M171 tx n q' b ((4, v, b + 1 + ss.length) :: ss) := by
  obtain ⟨k1, k2, k3, k4, k5, k6⟩ := hk
  have g26 : (M148.1 0 26).toInt = ((b + 1 + ss.length : Nat) : Int) := by
    rw [f4.2.1 26 (by decide) (by decide) (by decide)]
    exact k4
  have e26 : (fmI M148 0 8 (M148.1 0 8 - 1)).1 0 26 = M148.1 0 26 := by rw [fmI_j _ _ (by decide)]
  have e8 : M148.1 0 8 = M.1 0 8 + 1 := by
    rw [f4.2.1 8 (by decide) (by decide) (by decide), k3, f3.2.1 8 (by decide) (by decide) (by decide), f2.2.1 8 (by decide) (by decide) (by decide), fmI_k _ _ (by omega), f1.2.1 8 (by decide) (by decide) (by decide)]
    unfold rsM
    rw [fmI_k _ _ (by omega), fmI_j _ _ (by decide), fmI_j _ _ (by decide), fmI_s]
  have r : ∀ k j, k ≠ 0 → k ≠ 423 + b → M171.1 k j = M145.1 k j := fun k j a c => by
    rw [f5.1 k j a, fmI_k _ _ c, fmI_k _ _ a, f4.1 k j a]
  have r0 : ∀ j, j ≠ 2 → M171.1 (423 + b) j = (fmI M100 (423 + b) 1 w).1 (423 + b) j := fun j a => by
    rw [f5.1 _ _ (by omega), fmI_j _ _ a, fmI_k _ _ (by omega), f4.1 _ _ (by omega), k6.1 _ _ (by omega) (by omega), f3.1 _ _ (by omega), f2.1 _ _ (by omega)]
  refine ⟨hS, hf, ?_, ?_, fun i s hi => ?_, ?_⟩
  · rw [f5.2.1 8 (by decide) (by decide) (by decide), fmI_k _ _ (by omega), fmI_s, e8]
    exact Int32.add_sub_cancel _ _
  · rw [f5.2.1 26 (by decide) (by decide) (by decide), fmI_k _ _ (by omega), e26, g26, List.length_cons]
    congr 1
    omega
  · cases i with
    | zero =>
      cases hi
      rw [show 423 + b + 0 = 423 + b from rfl]
      refine ⟨?_, fun _ => ?_, ?_⟩
      · rw [r0 0 (by decide), fmI_j _ _ (by decide), f1.1 _ _ (by omega)]
        unfold rsM
        rw [fmI_s]
        exact (show (4 : Int32).toInt = 4 by decide)
      · rw [r0 1 (by decide), fmI_s]
        exact hw
      · rw [f5.1 _ _ (by omega), fmI_s, e26]
        exact g26
    | succ i =>
      have h9 := k5 i s hi
      rw [show 423 + b + (i + 1) = 423 + (b + 1) + i by omega, r _ _ (by omega) (by omega), r _ _ (by omega) (by omega), r _ _ (by omega) (by omega)]
      exact h9
  · have h0 : srFr b M (rsM (fmI M 0 8 (M.1 0 8 + 1)) x 4 b) := ((srFr.refl b M).c0 (Or.inr (Or.inr (Or.inr (Or.inl rfl))))).trans (rsM_fr hb) (Nat.le_refl _)
    exact ((((((((h0.rd f1).row ⟨Nat.le_refl _, by omega⟩).rd f2).rd f3).trans k6 (by omega)).rd f4).c0 (Or.inr (Or.inr (Or.inr (Or.inl rfl))))).row ⟨Nat.le_refl _, by omega⟩).rd f5
set_option maxRecDepth 20000 in
theorem rs_t0 {Q : fmR → fmM → Prop} {M0 M1 M : fmM} {tx : tX} {n q b o : Nat} {ss : tS} (hb80 : b < 80) (h1 : srFr b M0 M1) (hk : srOk M1 M tx n q (b + 1) ss) (hok : ∀ (M148 M171 : fmM) (q148 q171 : Nat), spSign tx 93 q = .inr ((), q148) → rdFr M M148 → spSign tx 59 q148 = .inr ((), q171) → rdOk (fmI (fmI M148 0 8 (M148.1 0 8 - 1)) (423 + b) 2 ((fmI M148 0 8 (M148.1 0 8 - 1)).1 0 26)) M171 tx n q171 → Q (.inl none) M171) (hbad : ∀ (M' : fmM) (kb ab : Nat), (spSign tx 93 q = .inl (kb, ab) ∨ ∃ q148, spSign tx 93 q = .inr ((), q148) ∧ spSign tx 59 q148 = .inl (kb, ab)) → srBad M0 M' tx n kb ab b → Q (.inl none) M') : pvEv Tm (5 + (6 - o)) qX11_readsStep 145 [some (.ref 0), some (.int 4), some (.ref (423 + b))] [] M Q := by
  refine pv_aloadn (pc := 145) (n := 0) 0 rfl rfl (fm_dec dtX11_readsStep 84 rfl) ?_
  refine pv_bipush (pc := 146) (v := 93) (by decide) (fm_dec dtX11_readsStep 85 rfl) ?_
  refine pv_invV1 (k := 0) (d' := 2) (pc := 148) pcv_X11_173 (by decide) rfl (Nat.le_of_ble_eq_true rfl) (by omega) (fm_dec dtX11_readsStep 86 rfl) ?_
  refine r_sign (tx := tx) (n := n) (p := q) 93 ⟨by decide, by decide⟩ hk.1 hk.2.1 (fun M148 q148 e148 k148 => ?_) (fun Mb kb ab eb hB => ?_)  
  · refine pv_then0 ?_
    refine pv_aloadn (pc := 151) (n := 0) 0 rfl rfl (fm_dec dtX11_readsStep 87 rfl) ?_
    refine pv_dup (pc := 152) rfl (fm_dec dtX11_readsStep 88 rfl) ?_
    refine pv_getI (k := 0) (j := 8) (ci := 11) (pc := 153) pfl_X11_160 (by decide) rfl (by decide) (fm_dec dtX11_readsStep 89 rfl) ?_
    refine pv_iconst (pc := 156) (v := 1) (by decide) (fm_dec dtX11_readsStep 90 rfl) ?_
    refine pv_isub (pc := 157) (fm_dec dtX11_readsStep 91 rfl) ?_
    refine pv_putI (k := 0) (j := 8) (ci := 11) (pc := 158) pfl_X11_160 (by decide) rfl (by decide) (fm_dec dtX11_readsStep 92 rfl) ?_
    refine pv_aloadn (pc := 161) (n := 2) 2 rfl rfl (fm_dec dtX11_readsStep 93 rfl) ?_
    refine pv_iconst (pc := 162) (v := 2) (by decide) (fm_dec dtX11_readsStep 94 rfl) ?_
    refine pv_aloadn (pc := 163) (n := 0) 0 rfl rfl (fm_dec dtX11_readsStep 95 rfl) ?_
    refine pv_getI (k := 0) (j := 26) (ci := 11) (pc := 164) pfl_X11_250 (by decide) rfl (by decide) (fm_dec dtX11_readsStep 96 rfl) ?_
    refine pv_iast (k := (423 + b)) (n := 3) (pc := 167) (rw_step.2.2.2 _ hb80).2.2.1 (rw_step.2.2.2 _ hb80).2.2.2.1 (rw_step.2.2.2 _ hb80).2.2.2.2 (fm_inl (by decide)) (fm_dec dtX11_readsStep 97 rfl) ?_
    refine pv_aloadn (pc := 168) (n := 0) 0 rfl rfl (fm_dec dtX11_readsStep 98 rfl) ?_
    refine pv_bipush (pc := 169) (v := 59) (by decide) (fm_dec dtX11_readsStep 99 rfl) ?_
    refine pv_invV1 (k := 0) (d' := 2) (pc := 171) pcv_X11_173 (by decide) rfl (Nat.le_of_ble_eq_true rfl) (by omega) (fm_dec dtX11_readsStep 100 rfl) ?_
    refine r_sign (M := fmI (fmI M148 0 8 (M148.1 0 8 - 1)) (423 + b) 2 ((fmI M148 0 8 (M148.1 0 8 - 1)).1 0 26)) (tx := tx) (n := n) (p := q148) 59 ⟨by decide, by decide⟩ ((k148.1.of rfl rfl rfl : rS (fmI M148 0 8 (M148.1 0 8 - 1)) tx n q148).row ⟨by omega, by omega⟩) (f0.row (show (fmI M148 0 8 (M148.1 0 8 - 1)).1 0 5 = 0 from k148.2.1) (by omega)) (fun M171 q171 e171 k171 => ?_) (fun Mb kb ab eb hB => ?_)  
    · refine pv_then0 ?_
      exact pv_return (pc := 174) rfl (fm_dec dtX11_readsStep 101 rfl) (hok M148 M171 q148 q171 e148 k148.2.2 e171 k171)
    · refine pv_then0 ?_
      have hB9 := srBad.of ((((h1.trans hk.2.2.2.2.2 (by omega)).rd k148.2.2).c0 (Or.inr (Or.inr (Or.inr (Or.inl rfl))))).row ⟨Nat.le_refl _, by omega⟩) hB
      exact pv_return (pc := 174) rfl (fm_dec dtX11_readsStep 101 rfl) (hbad _ kb ab (Or.inr ⟨q148, e148, eb⟩) hB9)
  · refine pv_then0 ?_
    have hB9 := srBad.of (h1.trans hk.2.2.2.2.2 (by omega)) hB
    refine pv_aloadn (pc := 151) (n := 0) 0 rfl rfl (fm_dec dtX11_readsStep 87 rfl) ?_
    refine pv_dup (pc := 152) rfl (fm_dec dtX11_readsStep 88 rfl) ?_
    refine pv_getI (k := 0) (j := 8) (ci := 11) (pc := 153) pfl_X11_160 (by decide) rfl (by decide) (fm_dec dtX11_readsStep 89 rfl) ?_
    refine pv_iconst (pc := 156) (v := 1) (by decide) (fm_dec dtX11_readsStep 90 rfl) ?_
    refine pv_isub (pc := 157) (fm_dec dtX11_readsStep 91 rfl) ?_
    refine pv_putI (k := 0) (j := 8) (ci := 11) (pc := 158) pfl_X11_160 (by decide) rfl (by decide) (fm_dec dtX11_readsStep 92 rfl) ?_
    refine pv_aloadn (pc := 161) (n := 2) 2 rfl rfl (fm_dec dtX11_readsStep 93 rfl) ?_
    refine pv_iconst (pc := 162) (v := 2) (by decide) (fm_dec dtX11_readsStep 94 rfl) ?_
    refine pv_aloadn (pc := 163) (n := 0) 0 rfl rfl (fm_dec dtX11_readsStep 95 rfl) ?_
    refine pv_getI (k := 0) (j := 26) (ci := 11) (pc := 164) pfl_X11_250 (by decide) rfl (by decide) (fm_dec dtX11_readsStep 96 rfl) ?_
    refine pv_iast (k := (423 + b)) (n := 3) (pc := 167) (rw_step.2.2.2 _ hb80).2.2.1 (rw_step.2.2.2 _ hb80).2.2.2.1 (rw_step.2.2.2 _ hb80).2.2.2.2 (fm_inl (by decide)) (fm_dec dtX11_readsStep 97 rfl) ?_
    refine pv_aloadn (pc := 168) (n := 0) 0 rfl rfl (fm_dec dtX11_readsStep 98 rfl) ?_
    refine pv_bipush (pc := 169) (v := 59) (by decide) (fm_dec dtX11_readsStep 99 rfl) ?_
    refine pv_invV1 (k := 0) (d' := 2) (pc := 171) pcv_X11_173 (by decide) rfl (Nat.le_of_ble_eq_true rfl) (by omega) (fm_dec dtX11_readsStep 100 rfl) ?_
    refine c_sign1 (srBad.nz (M := M0) (tx := tx) (n := n) (k := kb) (a := ab) (b := b) (srBad.row ⟨by omega, by omega⟩ hB9.c8)) ?_
    refine pv_then0 ?_
    exact pv_return (pc := 174) rfl (fm_dec dtX11_readsStep 101 rfl) (hbad _ kb ab (Or.inl eb) (srBad.row ⟨by omega, by omega⟩ hB9.c8))
theorem srPre.in8 {M : fmM} {tx : tX} {n a o b l : Nat} (h : srPre M tx n a o b l) (ho : o < 6) : srPre (fmI M 0 8 (M.1 0 8 + 1)) tx n a (o + 1) b l := ⟨h.1.of rfl rfl rfl, h.2.1, i32_p1 h.2.2.1 (by omega), by omega, h.2.2.2.2.1, h.2.2.2.2.2.1, h.2.2.2.2.2.2.1, (by rw [fmI_k _ _ (by decide)]; exact h.2.2.2.2.2.2.2.1), h.2.2.2.2.2.2.2.2⟩
theorem srPre.in1 {M8 M100 M107 M111 : fmM} {x w : Int32} {tx : tX} {n a o b l q : Nat} (h : srPre M8 tx n a o b l) (ha : a + 2 ≤ q) (f1 : rdFr (rsM M8 x 4 b) M100) (f2 : rdFr (fmI M100 (423 + b) 1 w) M107) (k3 : rdOk M107 M111 tx n q) : srPre M111 tx n q o (b + 1) l := by
  have hb := h.b
  obtain ⟨a1, a2, a3, a4, a5, a6, a7, a8, a9⟩ := h
  have g : ∀ j, j ≠ 4 → j ≠ 5 → j ≠ 6 → M111.1 0 j = (rsM M8 x 4 b).1 0 j := fun j x1 x2 x3 => by
    rw [k3.2.2.2.1 j x1 x2 x3, f2.2.1 j x1 x2 x3, fmI_k _ _ (by omega), f1.2.1 j x1 x2 x3]
  refine ⟨k3.1, k3.2.1, ?_, a4, ?_, by omega, a7, ?_, a9⟩
  · rw [g 8 (by decide) (by decide) (by decide)]
    unfold rsM
    rw [fmI_k _ _ (by omega), fmI_j _ _ (by decide), fmI_j _ _ (by decide)]
    exact a3
  · rw [g 26 (by decide) (by decide) (by decide)]
    unfold rsM
    rw [fmI_k _ _ (by omega), fmI_s, fmI_j _ _ (by decide)]
    exact i32_p1 a5 (by omega)
  · rw [k3.2.2.1 4 0 (by decide), f2.1 4 0 (by decide), fmI_k _ _ (by omega), f1.1 4 0 (by decide)]
    unfold rsM
    rw [fmI_k _ _ (by omega), fmI_k _ _ (by decide), fmI_k _ _ (by decide)]
    exact a8
theorem rsM_fr8 {M : fmM} {x k : Int32} {b : Nat} (hb : b < 80) : srFr b M (rsM (fmI M 0 8 (M.1 0 8 + 1)) x k b) := ((srFr.refl b M).c0 (Or.inr (Or.inr (Or.inr (Or.inl rfl))))).trans (rsM_fr hb) (Nat.le_refl _)
theorem srBad.bl {M M1 : fmM} {tx : tX} {n k a b : Nat} {x : Int32} {q : Nat} (h : srBad M M1 tx n k a b) (hS : rS M1 tx n q) (hx : x.toInt = sk tx q) : srBad M (fmI M1 0 4 x) tx n k a b := ⟨⟨_, hS.bl hx⟩, h.2.1, h.2.2.1, h.2.2.2.1, h.2.2.2.2.c0 (Or.inl rfl)⟩
set_option maxRecDepth 20000 in
theorem rs5_4 {Q : fmR → fmM → Prop} {M : fmM} {tx : tX} {n a o b l f : Nat} {v2 : Option Value} (hL : srLp tx n l f) (hP : srPre M tx n a o b l) (h6 : o = 6 → ∀ M' : fmM, srBad M M' tx n 3 a b → Q (.inl none) M') (hne : ¬ o = 6 → ¬ spAg tx (fun q => spSt tx l f 1 (o + 1) (b + 1) q) b (sp tW tx a) = .inl (9, 0)) (hok : ¬ o = 6 → ∀ (M' : fmM) (ss : tS) (q' : Nat), spAg tx (fun q => spSt tx l f 1 (o + 1) (b + 1) q) b (sp tW tx a) = .inr (ss, q') → srOk M M' tx n q' b ss → Q (.inl none) M') (hbad : ¬ o = 6 → ∀ (M' : fmM) (k a' : Nat), spAg tx (fun q => spSt tx l f 1 (o + 1) (b + 1) q) b (sp tW tx a) = .inl (k, a') → srBad M M' tx n k a' b → Q (.inl none) M') : pvEv Tm (5 + (6 - o)) qX11_readsStep 5 [some (.ref 0), some (.int 4), v2] [] M Q := by
  refine pv_iloadn (pc := 5) (n := 1) 1 rfl rfl (fm_dec dtX11_readsStep 3 rfl) ?_
  refine pv_iconst (pc := 6) (v := (-1)) (by decide) (fm_dec dtX11_readsStep 4 rfl) ?_
  refine pv_icmp_ne (pc := 7) 19 (by decide) (fm_dec dtX11_readsStep 5 rfl) (fun _ => ?_) (fun hc7 => by exfalso; revert hc7; decide)
  refine pv_iloadn (pc := 19) (n := 1) 1 rfl rfl (fm_dec dtX11_readsStep 11 rfl) ?_
  refine pv_iconst (pc := 20) (v := 4) (by decide) (fm_dec dtX11_readsStep 12 rfl) ?_
  refine pv_icmp_ne (pc := 21) 32 (by decide) (fm_dec dtX11_readsStep 13 rfl) (fun hc21 => by exfalso; revert hc21; decide) (fun _ => ?_)
  refine pv_aloadn (pc := 24) (n := 0) 0 rfl rfl (fm_dec dtX11_readsStep 14 rfl) ?_
  refine pv_invV0 (k := 0) (d' := 1) (pc := 25) pcv_X11_227 (by decide) rfl (Nat.le_of_ble_eq_true rfl) (by omega) (fm_dec dtX11_readsStep 15 rfl) ?_
  refine c_opens hP.1 hP.2.1 hP.2.2.1 (fun h61 => ?_) (fun h61 => ?_)  
  · refine pv_then1 ?_
    refine pv_if_ne (pc := 28) 32 (by decide) (fm_dec dtX11_readsStep 16 rfl) (fun hc28 => by exfalso; revert hc28; decide) (fun _ => ?_)
    exact pv_return (pc := 31) rfl (fm_dec dtX11_readsStep 17 rfl) (h6 h61 _ (srBad.of (srFr.refl b M) (rdBad.at0 hP.1 (by decide) hP.1.2.1 (by decide))))
  · refine pv_then1 ?_
    refine pv_if_ne (pc := 28) 32 (by decide) (fm_dec dtX11_readsStep 16 rfl) (fun _ => ?_) (fun hc28 => by exfalso; revert hc28; decide)
    have ho5 : o < 6 := (by have := hP.2.2.2.1; omega)
    have hP8 := hP.in8 ho5
    refine pv_aloadn (pc := 32) (n := 0) 0 rfl rfl (fm_dec dtX11_readsStep 18 rfl) ?_
    refine pv_getI (k := 0) (j := 5) (ci := 11) (pc := 33) pfl_X11_117 (by decide) rfl (by decide) (fm_dec dtX11_readsStep 19 rfl) ?_
    refine pv_if_eq (pc := 36) 40 (by decide) (fm_dec dtX11_readsStep 20 rfl) (fun _ => ?_) (fun hc36 => by exfalso; exact hc36 hP.2.1)
    refine pv_aloadn (pc := 40) (n := 0) 0 rfl rfl (fm_dec dtX11_readsStep 22 rfl) ?_
    refine pv_invV0 (k := 0) (d' := 1) (pc := 41) pcv_X11_154 (by decide) rfl (Nat.le_of_ble_eq_true rfl) (by omega) (fm_dec dtX11_readsStep 23 rfl) ?_
    refine c_skipWord hP8.1 (fun x40 hx40 => ?_)
    refine pv_then0 ?_
    have hb80 := hP.b
    have hw40 := sp_le (p := a) tW_1 hP.1.2.2.2.1 hP.1.2.2.1
    refine pv_aloadn (pc := 44) (n := 0) 0 rfl rfl (fm_dec dtX11_readsStep 24 rfl) ?_
    refine pv_getR (k := 0) (j := 25) (ci := 11) (pc := 45) 24 rfl (by decide) pfl_X11_58 (by decide) rfl (by decide) (fm_dec dtX11_readsStep 25 rfl) ?_
    refine pv_aloadn (pc := 48) (n := 0) 0 rfl rfl (fm_dec dtX11_readsStep 26 rfl) ?_
    refine pv_getI (k := 0) (j := 26) (ci := 11) (pc := 49) pfl_X11_250 (by decide) rfl (by decide) (fm_dec dtX11_readsStep 27 rfl) ?_
    refine pv_aald (k := 24) (n := 80) (r := (423 + b)) (pc := 52) (by decide) (Or.inr (Or.inr rfl)) rfl (rw_step.inb hP8.2.2.2.2.1 hb80) (rw_step.at hP8.2.2.2.2.1 hb80) (rw_step.2.2.2 _ hb80).2.1 (fm_dec dtX11_readsStep 28 rfl) ?_
    refine pv_astoren (pc := 53) (n := 2) 2 rfl (by decide) rfl (fm_dec dtX11_readsStep 29 rfl) ?_
    dsimp only [List.set_cons_zero, List.set_cons_succ]
    refine pv_aloadn (pc := 54) (n := 0) 0 rfl rfl (fm_dec dtX11_readsStep 30 rfl) ?_
    refine pv_dup (pc := 55) rfl (fm_dec dtX11_readsStep 31 rfl) ?_
    refine pv_getI (k := 0) (j := 26) (ci := 11) (pc := 56) pfl_X11_250 (by decide) rfl (by decide) (fm_dec dtX11_readsStep 32 rfl) ?_
    refine pv_iconst (pc := 59) (v := 1) (by decide) (fm_dec dtX11_readsStep 33 rfl) ?_
    refine pv_iadd (pc := 60) (fm_dec dtX11_readsStep 34 rfl) ?_
    refine pv_putI (k := 0) (j := 26) (ci := 11) (pc := 61) pfl_X11_250 (by decide) rfl (by decide) (fm_dec dtX11_readsStep 35 rfl) ?_
    refine pv_aloadn (pc := 64) (n := 2) 2 rfl rfl (fm_dec dtX11_readsStep 36 rfl) ?_
    refine pv_iconst (pc := 65) (v := 0) (by decide) (fm_dec dtX11_readsStep 37 rfl) ?_
    refine pv_iloadn (pc := 66) (n := 1) 1 rfl rfl (fm_dec dtX11_readsStep 38 rfl) ?_
    refine pv_iast (k := (423 + b)) (n := 3) (pc := 67) (rw_step.2.2.2 _ hb80).2.2.1 (rw_step.2.2.2 _ hb80).2.2.2.1 (rw_step.2.2.2 _ hb80).2.2.2.2 (fm_inl (by decide)) (fm_dec dtX11_readsStep 39 rfl) ?_
    refine pv_iloadn (pc := 68) (n := 1) 1 rfl rfl (fm_dec dtX11_readsStep 40 rfl) ?_
    refine pv_iconst (pc := 69) (v := 3) (by decide) (fm_dec dtX11_readsStep 41 rfl) ?_
    refine pv_icmp_ge (pc := 70) 89 (by decide) (fm_dec dtX11_readsStep 42 rfl) (fun _ => ?_) (fun hc70 => by exfalso; revert hc70; decide)
    refine pv_iloadn (pc := 89) (n := 1) 1 rfl rfl (fm_dec dtX11_readsStep 55 rfl) ?_
    refine pv_iconst (pc := 90) (v := 4) (by decide) (fm_dec dtX11_readsStep 56 rfl) ?_
    refine pv_icmp_ne (pc := 91) 161 (by decide) (fm_dec dtX11_readsStep 57 rfl) (fun hc91 => by exfalso; revert hc91; decide) (fun _ => ?_)
    refine pv_aloadn (pc := 94) (n := 2) 2 rfl rfl (fm_dec dtX11_readsStep 58 rfl) ?_
    refine pv_iconst (pc := 95) (v := 1) (by decide) (fm_dec dtX11_readsStep 59 rfl) ?_
    refine pv_aloadn (pc := 96) (n := 0) 0 rfl rfl (fm_dec dtX11_readsStep 60 rfl) ?_
    refine pv_iconst (pc := 97) (v := 0) (by decide) (fm_dec dtX11_readsStep 61 rfl) ?_
    refine pv_bipush (pc := 98) (v := 20) (by decide) (fm_dec dtX11_readsStep 62 rfl) ?_
    refine pv_invV2 (k := 0) (d' := 2) (pc := 100) pcv_X11_163 (by decide) rfl (Nat.le_of_ble_eq_true rfl) (by omega) (fm_dec dtX11_readsStep 63 rfl) ?_
    refine r_num (M := rsM (fmI M 0 8 (M.1 0 8 + 1)) x40 4 b) (tx := tx) (n := n) (p := sp tW tx a) 0 20 ⟨by decide, by decide, by decide⟩ (rsM_S hP8 hx40 hw40).1 (rsM_S hP8 hx40 hw40).2 (fun M100 v100 q100 w100 e100 hw100 k100 => ?_) (fun Mb kb ab eb hB => ?_)  
    · refine pv_then1 ?_
      refine pv_iast (k := (423 + b)) (n := 3) (pc := 103) (rw_step.2.2.2 _ hb80).2.2.1 (rw_step.2.2.2 _ hb80).2.2.2.1 (rw_step.2.2.2 _ hb80).2.2.2.2 (fm_inl (by decide)) (fm_dec dtX11_readsStep 64 rfl) ?_
      refine pv_aloadn (pc := 104) (n := 0) 0 rfl rfl (fm_dec dtX11_readsStep 65 rfl) ?_
      refine pv_bipush (pc := 105) (v := 91) (by decide) (fm_dec dtX11_readsStep 66 rfl) ?_
      refine pv_invV1 (k := 0) (d' := 2) (pc := 107) pcv_X11_173 (by decide) rfl (Nat.le_of_ble_eq_true rfl) (by omega) (fm_dec dtX11_readsStep 67 rfl) ?_
      refine r_sign (M := fmI M100 (423 + b) 1 w100) (tx := tx) (n := n) (p := q100) 91 ⟨by decide, by decide⟩ (k100.1.row ⟨by omega, by omega⟩) (f0.row k100.2.1 (by omega)) (fun M107 q107 e107 k107 => ?_) (fun Mb kb ab eb hB => ?_)  
      · refine pv_then0 ?_
        refine pv_aloadn (pc := 110) (n := 0) 0 rfl rfl (fm_dec dtX11_readsStep 68 rfl) ?_
        refine pv_invV0 (k := 0) (d' := 1) (pc := 111) pcv_X11_123 (by decide) rfl (Nat.le_of_ble_eq_true rfl) (by omega) (fm_dec dtX11_readsStep 69 rfl) ?_
        refine r_blanks k107.1 k107.2.1 (fun M111 k111 => ?_)
        refine pv_then0 ?_
        have n1 := spNum_ok hP.1.2.2.2.1 hw40 e100
        have n2 := spSign_ok hP.1.2.2.2.1 n1.2.1 (by decide) e107
        have n3 : q107 ≤ sk tx q107 := sp_ge q107
        have n4 : a ≤ sp tW tx a := sp_ge a
        have hfr : srFr b M M111 := ((((rsM_fr8 hb80).rd k100.2.2).row ⟨Nat.le_refl _, by omega⟩).rd k107.2.2).rd k111.2.2
        have eA : spAg tx (fun q => spSt tx l f 1 (o + 1) (b + 1) q) b (sp tW tx a) = spBind (spSt tx l f 1 (o + 1) (b + 1) (sk tx q107)) fun ss q => spBind (spSign tx 93 q) fun _ q => spBind (spSign tx 59 q) fun _ q => .inr ((4, v100, b + 1 + ss.length) :: ss, q) := (by simp only [spAg, spBind, e100, e107])
        refine hL o (b + 1) (sk tx q107) (423 + b) M111 Q ho5 (hP8.in1 (by omega) k100.2.2 k107.2.2 k111) (fun h9 => hne h61 (by rw [eA, h9]; rfl)) (fun M145 ss q145 e145 k145 => ?_) (fun M145 kb ab eb hB => ?_)
        · refine rs_t0 hb80 hfr k145 (fun M148 M171 q148 q171 e148 f148 e171 k171 => ?_) (fun M9 kb ab hor h9 => ?_)
          · exact hok h61 M171 _ q171 (by rw [eA, e145]; simp only [spBind, e148, e171]) (rs_ag (o := o) (l := l) hb80 k100.2.2 k107.2.2 k111.2.2 k145 f148 k171.2.2 hw100 k171.1 k171.2.1)
          · rcases hor with e148 | ⟨q148, e148, e171⟩
            · exact hbad h61 M9 kb ab (by rw [eA, e145]; simp only [spBind, e148]) h9
            · exact hbad h61 M9 kb ab (by rw [eA, e145]; simp only [spBind, e148, e171]) h9
        · exact rs_t1 hb80 ⟨hB.1, hB.2.1, hB.2.2.1, hB.2.2.2.1, hfr.trans hB.2.2.2.2 (by omega)⟩ (fun M9 h9 => hbad h61 M9 kb ab (by rw [eA, eb]; rfl) h9)
      · refine pv_then0 ?_
        have hB9 := srBad.of (((rsM_fr8 hb80).rd k100.2.2).row ⟨Nat.le_refl _, by omega⟩) hB
        obtain ⟨qb, hSb⟩ := hB9.1
        refine pv_aloadn (pc := 110) (n := 0) 0 rfl rfl (fm_dec dtX11_readsStep 68 rfl) ?_
        refine pv_invV0 (k := 0) (d' := 1) (pc := 111) pcv_X11_123 (by decide) rfl (Nat.le_of_ble_eq_true rfl) (by omega) (fm_dec dtX11_readsStep 69 rfl) ?_
        refine c_blanks hSb (fun x111 hx111 => ?_)
        refine pv_then0 ?_
        exact rs_o1 (srBad.nz (hB9.bl hSb hx111)) (rs_t1 hb80 (hB9.bl hSb hx111) (fun M9 h9 => hbad h61 M9 kb ab (by simp only [spAg, spBind, e100, eb]) h9))
    · refine pv_then1 ?_
      have hB9 := srBad.of (rsM_fr8 hb80) hB
      refine pv_iast (k := (423 + b)) (n := 3) (pc := 103) (rw_step.2.2.2 _ hb80).2.2.1 (rw_step.2.2.2 _ hb80).2.2.2.1 (rw_step.2.2.2 _ hb80).2.2.2.2 (fm_inl (by decide)) (fm_dec dtX11_readsStep 64 rfl) ?_
      refine pv_aloadn (pc := 104) (n := 0) 0 rfl rfl (fm_dec dtX11_readsStep 65 rfl) ?_
      refine pv_bipush (pc := 105) (v := 91) (by decide) (fm_dec dtX11_readsStep 66 rfl) ?_
      refine pv_invV1 (k := 0) (d' := 2) (pc := 107) pcv_X11_173 (by decide) rfl (Nat.le_of_ble_eq_true rfl) (by omega) (fm_dec dtX11_readsStep 67 rfl) ?_
      refine c_sign1 (srBad.nz (M := M) (tx := tx) (n := n) (k := kb) (a := ab) (b := b) (srBad.row ⟨by omega, by omega⟩ hB9)) ?_
      refine pv_then0 ?_
      have hB8 := srBad.row (k := 423 + b) (j := 1) (x := 0) ⟨Nat.le_refl _, by omega⟩ hB9
      obtain ⟨qb, hSb⟩ := hB8.1
      refine pv_aloadn (pc := 110) (n := 0) 0 rfl rfl (fm_dec dtX11_readsStep 68 rfl) ?_
      refine pv_invV0 (k := 0) (d' := 1) (pc := 111) pcv_X11_123 (by decide) rfl (Nat.le_of_ble_eq_true rfl) (by omega) (fm_dec dtX11_readsStep 69 rfl) ?_
      refine c_blanks hSb (fun x111 hx111 => ?_)
      refine pv_then0 ?_
      exact rs_o1 (srBad.nz (hB8.bl hSb hx111)) (rs_t1 hb80 (hB8.bl hSb hx111) (fun M9 h9 => hbad h61 M9 kb ab (by simp only [spAg, spBind, eb]) h9))
theorem srPre.at0 {M : fmM} {x : Int32} {tx : tX} {n p o b l : Nat} (h : srPre M tx n p o b l) (hx : x.toInt = sk tx p) : srPre (fmI M 0 4 x) tx n (sk tx p) o b l := ⟨h.1.bl hx, h.2.1, h.2.2.1, h.2.2.2.1, h.2.2.2.2.1, (by have := sp_ge (P := tB) (tx := tx) p; have h9 := h.2.2.2.2.2.1; unfold sk; omega), h.2.2.2.2.2.2.1, (by rw [fmI_k _ _ (by decide)]; exact h.2.2.2.2.2.2.2.1), h.2.2.2.2.2.2.2.2⟩
theorem srFr.at0 {M : fmM} {x : Int32} {b : Nat} : srFr b M (fmI M 0 4 x) := (srFr.refl b M).c0 (Or.inl rfl)
theorem srOk.pre {M M' : fmM} {x : Int32} {tx : tX} {n q b : Nat} {ss : tS} (h : srOk (fmI M 0 4 x) M' tx n q b ss) : srOk M M' tx n q b ss := ⟨h.1, h.2.1, h.2.2.1.trans (by rw [fmI_j _ _ (by decide)]), h.2.2.2.1, h.2.2.2.2.1, srFr.at0.trans h.2.2.2.2.2 (Nat.le_refl _)⟩
theorem srBad.pre {M M' : fmM} {x : Int32} {tx : tX} {n k a b : Nat} (h : srBad (fmI M 0 4 x) M' tx n k a b) : srBad M M' tx n k a b := ⟨h.1, h.2.1, h.2.2.1, h.2.2.2.1, srFr.at0.trans h.2.2.2.2 (Nat.le_refl _)⟩
set_option maxRecDepth 20000 in
theorem rs_G {tx : tX} {n l f : Nat} (hL : srLp tx n l f) : srG tx n l (f + 1) := by
  intro o b p M Q hP hne hok hbad
  refine pvGood_of (Nat.le_of_ble_eq_true rfl) ?_
  show pvEv Tm (5 + (6 - o)) qX11_readsStep 0 [some (.ref 0), none, none] [] M Q
  refine pv_aloadn (pc := 0) (n := 0) 0 rfl rfl (fm_dec dtX11_readsStep 0 rfl) ?_
  refine pv_invV0 (k := 0) (d' := 4) (pc := 1) pcv_X11_247 (by decide) rfl (Nat.le_of_ble_eq_true rfl) (by omega) (fm_dec dtX11_readsStep 1 rfl) ?_
  refine c_stepHere hP.1 hP.2.1 (fun x1 e1 hx1 => ?_) (fun x1 e1 hx1 => ?_) (fun x1 e1 hx1 => ?_) (fun x1 e1 hx1 => ?_) (fun x1 e1 hx1 => ?_) (fun x1 e1 hx1 => ?_)
  · refine pv_then1 ?_
    refine pv_istoren (pc := 4) (n := 1) 1 rfl (by decide) rfl (fm_dec dtX11_readsStep 2 rfl) ?_
    dsimp only [List.set_cons_zero, List.set_cons_succ]
    have eS : spSt tx l (f + 1) 0 o b p = spSi tx l 0 b (sp tW tx (sk tx p)) := (by show spOneS _ _ _ _ _ _ = _; unfold spOneS; rw [e1]; rfl)
    exact rs5_0 (hP.at0 hx1) (fun M' ss q e h => hok M' ss q (eS.trans e) h.pre) (fun M' k a e h => hbad M' k a (eS.trans e) h.pre)
  · refine pv_then1 ?_
    refine pv_istoren (pc := 4) (n := 1) 1 rfl (by decide) rfl (fm_dec dtX11_readsStep 2 rfl) ?_
    dsimp only [List.set_cons_zero, List.set_cons_succ]
    have eS : spSt tx l (f + 1) 0 o b p = spSi tx l 1 b (sp tW tx (sk tx p)) := (by show spOneS _ _ _ _ _ _ = _; unfold spOneS; rw [e1]; rfl)
    exact rs5_1 (hP.at0 hx1) (fun M' ss q e h => hok M' ss q (eS.trans e) h.pre) (fun M' k a e h => hbad M' k a (eS.trans e) h.pre)
  · refine pv_then1 ?_
    refine pv_istoren (pc := 4) (n := 1) 1 rfl (by decide) rfl (fm_dec dtX11_readsStep 2 rfl) ?_
    dsimp only [List.set_cons_zero, List.set_cons_succ]
    have eS : spSt tx l (f + 1) 0 o b p = spSi tx l 2 b (sp tW tx (sk tx p)) := (by show spOneS _ _ _ _ _ _ = _; unfold spOneS; rw [e1]; rfl)
    exact rs5_2 (hP.at0 hx1) (fun M' ss q e h => hok M' ss q (eS.trans e) h.pre) (fun M' k a e h => hbad M' k a (eS.trans e) h.pre)
  · refine pv_then1 ?_
    refine pv_istoren (pc := 4) (n := 1) 1 rfl (by decide) rfl (fm_dec dtX11_readsStep 2 rfl) ?_
    dsimp only [List.set_cons_zero, List.set_cons_succ]
    have eS : spSt tx l (f + 1) 0 o b p = spWk tx b (sp tW tx (sk tx p)) := (by show spOneS _ _ _ _ _ _ = _; unfold spOneS; rw [e1]; rfl)
    exact rs5_3 (hP.at0 hx1) (fun M' ss q e h => hok M' ss q (eS.trans e) h.pre) (fun M' k a e h => hbad M' k a (eS.trans e) h.pre)
  · refine pv_then1 ?_
    refine pv_istoren (pc := 4) (n := 1) 1 rfl (by decide) rfl (fm_dec dtX11_readsStep 2 rfl) ?_
    dsimp only [List.set_cons_zero, List.set_cons_succ]
    have eS : spSt tx l (f + 1) 0 o b p = if o = 6 then .inl (3, sk tx p) else spAg tx (fun q => spSt tx l f 1 (o + 1) (b + 1) q) b (sp tW tx (sk tx p)) := (by show spOneS _ _ _ _ _ _ = _; unfold spOneS; rw [e1]; rfl)
    exact rs5_4 hL (hP.at0 hx1) (fun h6 M' h => hbad M' 3 _ (by rw [eS, if_pos h6]) h.pre) (fun h6 h9 => hne (by rw [eS, if_neg h6]; exact h9)) (fun h6 M' ss q e h => hok M' ss q (by rw [eS, if_neg h6]; exact e) h.pre) (fun h6 M' k a e h => hbad M' k a (by rw [eS, if_neg h6]; exact e) h.pre)
  · refine pv_then1 ?_
    refine pv_istoren (pc := 4) (n := 1) 1 rfl (by decide) rfl (fm_dec dtX11_readsStep 2 rfl) ?_
    dsimp only [List.set_cons_zero, List.set_cons_succ]
    have eS : spSt tx l (f + 1) 0 o b p = .inl (1, sk tx p) := (by show spOneS _ _ _ _ _ _ = _; unfold spOneS; rw [e1])
    exact rs5_n (hP.at0 hx1) (fun M' h => hbad M' 1 _ eS h.pre)
theorem rs_all {tx : tX} {n l : Nat} : ∀ f, srG tx n l f ∧ srLp tx n l f := by
  intro f
  induction f with
  | zero => exact ⟨fun o b p M Q hP hne => absurd rfl hne, fun o b p r0 M Q ho hP hne => absurd rfl hne⟩
  | succ f ih => exact ⟨rs_G ih.2, rs_loop ih.1 ih.2⟩
end
-- P 12u
section
-- THE REFERENCE WORKS
/-- the hours that a piece takes now -/
def hrV (M : fmM) (k : Nat) : Int32 := if M.1 7 (1 + k) = -1000 then M.1 (35 + k) 3 else pvMx true 1 (M.1 (35 + k) 3 / M.1 4 5)
theorem told5 {M : fmM} (hI : scInv Tm invM M) : ¬ M.1 4 5 = 0 := by
  intro e
  have h1 : 1 ≤ (M.1 4 5).toInt := (hI.1 4 5 (by decide)).1
  rw [e] at h1
  exact absurd h1 (by decide)
theorem pvMx_1 (x : Int32) : 1 ≤ (pvMx true 1 x).toInt := by
  have e1 : (1 : Int32).toInt = 1 := by decide
  show 1 ≤ (if (1 : Int32).toInt ≤ x.toInt then x else 1).toInt
  split <;> omega
theorem hrV_0 {M : fmM} {k : Nat} (hI : scInv Tm invM M) (hk : k < 8) : 0 ≤ (hrV M k).toInt := by
  unfold hrV
  split
  · have h := (hI.1 (35 + k) 3 (by rw [(rw_life.2.2.2 k hk).2.2.2.2]; decide)).1
    rcases (show k = 0 ∨ k = 1 ∨ k = 2 ∨ k = 3 ∨ k = 4 ∨ k = 5 ∨ k = 6 ∨ k = 7 by omega) with rfl | rfl | rfl | rfl | rfl | rfl | rfl | rfl <;> exact h
  · have := pvMx_1 (M.1 (35 + k) 3 / M.1 4 5)
    omega
def wrM (M : fmM) (k : Nat) : fmM := fmI (fmI M 7 9 (M.1 7 9 - hrV M k)) 7 (1 + k) (M.1 7 10)
theorem inv_writes {M : fmM} {k : Nat} (hI : scInv Tm invM M) (hk : k < 8) (hle : hrV M k ≤ M.1 7 9) : scInv Tm invM (wrM M k) := by
  have h0 := hrV_0 hI hk
  have h9 := hI.1 7 9 (by decide)
  have h9a : 0 ≤ (M.1 7 9).toInt := h9.1
  have h9b : (M.1 7 9).toInt ≤ 12 := h9.2
  have h10 := hI.1 7 10 (by decide)
  have h10a : 0 ≤ (M.1 7 10).toInt := h10.1
  have h10b : (M.1 7 10).toInt ≤ 200 := h10.2
  rw [sc_le] at hle
  have e : (M.1 7 9 - hrV M k).toInt = (M.1 7 9).toInt - (hrV M k).toInt := sc_sub (by omega) (by omega)
  refine scInv.put (scInv.put hI ⟨?_, ?_⟩ rfl) ⟨?_, ?_⟩ ?_
  · show (0 : Int) ≤ _
    omega
  · show _ ≤ (12 : Int)
    omega
  · rw [inv_7 k hk]
    show (-1000 : Int) ≤ _
    omega
  · rw [inv_7 k hk]
    show _ ≤ (200 : Int)
    omega
  · rcases (show k = 0 ∨ k = 1 ∨ k = 2 ∨ k = 3 ∨ k = 4 ∨ k = 5 ∨ k = 6 ∨ k = 7 by omega) with rfl | rfl | rfl | rfl | rfl | rfl | rfl | rfl <;> rfl
abbrev dsW : List (Nat × Nat × Nat) := [(5, 0, 160), (6, 0, 5), (7, 0, 14)]
abbrev gsW : List (Nat × Nat × Nat) := [(0, 33, 1), (0, 36, 2), (5, 0, 160), (6, 0, 5), (7, 0, 14)]
theorem fr_writes {M : fmM} {k : Nat} (hk : k < 8) : scFr dsW M (wrM M k) := by
  refine scFr.toI (scFr.toI scFr.rfl rfl) ?_
  rcases (show k = 0 ∨ k = 1 ∨ k = 2 ∨ k = 3 ∨ k = 4 ∨ k = 5 ∨ k = 6 ∨ k = 7 by omega) with rfl | rfl | rfl | rfl | rfl | rfl | rfl | rfl <;> rfl
theorem s_dies7 {M : fmM} {Q : fmR → fmM → Prop} {i : Int32} {k : Nat} (hi : i.toInt = k) (hk : k < 8) (hI : scInv Tm invM M) (hq : ∀ M' : fmM, scInv Tm invM M' → scFr dsW M M' → Q (.inl none) M') : pvGood Tm 8 qX11_dies [.ref 0, .ref 7, .int i] M Q := (hh_X11_dies_1 M [(k : Int)] [.ref 0, .ref 7, .int i] (sc_sg hi ⟨by omega, by omega⟩) ⟨⟨0, by simp, rfl⟩, ⟨7, by simp, rfl⟩, ⟨i, rfl, ⟨(k : Int), rfl, hi.trans (Int.add_zero _).symm⟩⟩, trivial⟩ (fun f hf => by cases hf) hI).imp (fun r M' h => by
  obtain ⟨rfl, h1, h2⟩ := sc_o0 h
  exact hq M' h1 (scFr.trans scFr.rfl h2 (by decide)))
theorem s_week7 {M : fmM} {Q : fmR → fmM → Prop} (hI : scInv Tm invM M) (hq : ∀ (n : Int32) (M' : fmM), (n = 0 ∨ n = 1) → scInv Tm invM M' → scFr dsW M M' → Q (.inl (some (.int n))) M') : pvGood Tm 0 qX11_weekEnds [.ref 0, .ref 7] M Q := (hh_X11_weekEnds_1 M [] [.ref 0, .ref 7] ⟨rfl, fun n e x he hx => by cases he⟩ ⟨⟨0, by simp, rfl⟩, ⟨7, by simp, rfl⟩, trivial⟩ (fun f hf => by cases hf) hI).imp (fun r M' h => by
  obtain ⟨⟨n, rfl, a, b⟩, h1, h2⟩ := sc_o1 h
  exact hq n M' (scq_01 ⟨a, b⟩) h1 (scFr.trans scFr.rfl h2 (by decide)))
set_option maxRecDepth 20000 in
theorem c_renew {M : fmM} {Q : fmR → fmM → Prop} {i : Int32} {k : Nat} (hi : i.toInt = k) (hk : k < 8) (h5 : ¬ M.1 4 5 = 0) (hq : Q (.inl (some (.int (pvMx true 1 (M.1 (35 + k) 3 / M.1 4 5))))) M) : pvGood Tm 1 qX11_renewHours [.ref 0, .int i] M Q := by
  refine pvGood_of (Nat.le_of_ble_eq_true rfl) ?_
  show pvEv Tm 1 qX11_renewHours 0 [some (.ref 0), some (.int i)] [] M Q
  refine pv_iconst (pc := 0) (v := 1) (by decide) (fm_dec dtX11_renewHours 0 rfl) ?_
  refine pv_aloadn (pc := 1) (n := 0) 0 rfl rfl (fm_dec dtX11_renewHours 1 rfl) ?_
  refine pv_getR (k := 0) (j := 14) (ci := 11) (pc := 2) 17 rfl (by decide) pfl_X11_31 (by decide) rfl (by decide) (fm_dec dtX11_renewHours 2 rfl) ?_
  refine pv_iloadn (pc := 5) (n := 1) 1 rfl rfl (fm_dec dtX11_renewHours 3 rfl) ?_
  refine pv_aald (k := 17) (n := 8) (r := (35 + k)) (pc := 6) (by decide) (Or.inr (Or.inr rfl)) rfl (rw_life.inb hi hk) (rw_life.at hi hk) (rw_life.2.2.2 _ hk).2.1 (fm_dec dtX11_renewHours 4 rfl) ?_
  refine pv_iconst (pc := 7) (v := 3) (by decide) (fm_dec dtX11_renewHours 5 rfl) ?_
  refine pv_iald (k := (35 + k)) (n := 6) (pc := 8) (rw_life.2.2.2 _ hk).2.2.1 (rw_life.2.2.2 _ hk).2.2.2.1 (rw_life.2.2.2 _ hk).2.2.2.2 (fm_inl (by decide)) (fm_dec dtX11_renewHours 6 rfl) ?_
  refine pv_aloadn (pc := 9) (n := 0) 0 rfl rfl (fm_dec dtX11_renewHours 7 rfl) ?_
  refine pv_getR (k := 0) (j := 12) (ci := 11) (pc := 10) 4 rfl (by decide) pfl_X11_23 (by decide) rfl (by decide) (fm_dec dtX11_renewHours 8 rfl) ?_
  refine pv_iconst (pc := 13) (v := 5) (by decide) (fm_dec dtX11_renewHours 9 rfl) ?_
  refine pv_iald (k := 4) (n := 6) (pc := 14) (by decide) rfl rfl (fm_inl (by decide)) (fm_dec dtX11_renewHours 10 rfl) ?_
  refine pv_idiv (pc := 15) h5 (fm_dec dtX11_renewHours 11 rfl) ?_
  refine pv_mm (pc := 16) pmm_X11_240 (by decide) (Nat.le_of_ble_eq_true rfl) (fm_dec dtX11_renewHours 12 rfl) ?_
  exact pv_ireturn (pc := 19) rfl (fm_dec dtX11_renewHours 13 rfl) hq
set_option maxRecDepth 20000 in
theorem c_hours7 {M : fmM} {Q : fmR → fmM → Prop} {i : Int32} {k : Nat} (hi : i.toInt = k) (hk : k < 8) (h5 : ¬ M.1 4 5 = 0) (hq : Q (.inl (some (.int (hrV M k)))) M) : pvGood Tm 2 qX11_hoursFor [.ref 0, .ref 7, .int i] M Q := by
  refine pvGood_of (Nat.le_of_ble_eq_true rfl) ?_
  show pvEv Tm 2 qX11_hoursFor 0 [some (.ref 0), some (.ref 7), some (.int i)] [] M Q
  refine pv_aloadn (pc := 0) (n := 1) 1 rfl rfl (fm_dec dtX11_hoursFor 0 rfl) ?_
  refine pv_iloadn (pc := 1) (n := 2) 2 rfl rfl (fm_dec dtX11_hoursFor 1 rfl) ?_
  refine pv_iS2 (d' := 0) (pc := 2) pcs_X11_283 (Nat.le_of_ble_eq_true rfl) (by decide) (fm_dec dtX11_hoursFor 2 rfl) ?_
  refine c_hasPiece7 hi hk (fun h2 => ?_) (fun h2 => ?_)
  · refine pv_then1 ?_
    refine pv_if_eq (pc := 5) 16 (by decide) (fm_dec dtX11_hoursFor 3 rfl) (fun hc5 => by exfalso; revert hc5; decide) (fun _ => ?_)
    refine pv_aloadn (pc := 8) (n := 0) 0 rfl rfl (fm_dec dtX11_hoursFor 4 rfl) ?_
    refine pv_iloadn (pc := 9) (n := 2) 2 rfl rfl (fm_dec dtX11_hoursFor 5 rfl) ?_
    refine pv_invV1 (k := 0) (d' := 1) (pc := 10) pcv_X11_287 (by decide) rfl (Nat.le_of_ble_eq_true rfl) (by decide) (fm_dec dtX11_hoursFor 6 rfl) ?_
    refine c_renew hi hk h5 ?_
    refine pv_then1 ?_
    refine pv_goto (pc := 13) 24 (by decide) (fm_dec dtX11_hoursFor 7 rfl) ?_
    exact pv_ireturn (pc := 24) rfl (fm_dec dtX11_hoursFor 14 rfl) (by have h9 := hq; unfold hrV at h9; rw [if_neg h2] at h9; exact h9)
  · refine pv_then1 ?_
    refine pv_if_eq (pc := 5) 16 (by decide) (fm_dec dtX11_hoursFor 3 rfl) (fun _ => ?_) (fun hc5 => by exfalso; revert hc5; decide)
    refine pv_aloadn (pc := 16) (n := 0) 0 rfl rfl (fm_dec dtX11_hoursFor 8 rfl) ?_
    refine pv_getR (k := 0) (j := 14) (ci := 11) (pc := 17) 17 rfl (by decide) pfl_X11_31 (by decide) rfl (by decide) (fm_dec dtX11_hoursFor 9 rfl) ?_
    refine pv_iloadn (pc := 20) (n := 2) 2 rfl rfl (fm_dec dtX11_hoursFor 10 rfl) ?_
    refine pv_aald (k := 17) (n := 8) (r := (35 + k)) (pc := 21) (by decide) (Or.inr (Or.inr rfl)) rfl (rw_life.inb hi hk) (rw_life.at hi hk) (rw_life.2.2.2 _ hk).2.1 (fm_dec dtX11_hoursFor 11 rfl) ?_
    refine pv_iconst (pc := 22) (v := 3) (by decide) (fm_dec dtX11_hoursFor 12 rfl) ?_
    refine pv_iald (k := (35 + k)) (n := 6) (pc := 23) (rw_life.2.2.2 _ hk).2.2.1 (rw_life.2.2.2 _ hk).2.2.2.1 (rw_life.2.2.2 _ hk).2.2.2.2 (fm_inl (by decide)) (fm_dec dtX11_hoursFor 13 rfl) ?_
    exact pv_ireturn (pc := 24) rfl (fm_dec dtX11_hoursFor 14 rfl) (by have h9 := hq; unfold hrV at h9; rw [if_pos h2] at h9; exact h9)
set_option maxRecDepth 20000 in
theorem c_mayWrite7 {M : fmM} {Q : fmR → fmM → Prop} {i : Int32} {k : Nat} (hi : i.toInt = k) (hk : k < 8) (ht : ¬ (M.1 7 0 >>> (i &&& 31) &&& 1) = 1 → ¬ M.1 7 (1 + k) = M.1 7 10 → Q (.inl (some (.int 1))) M) (hf : ((M.1 7 0 >>> (i &&& 31) &&& 1) = 1 ∨ M.1 7 (1 + k) = M.1 7 10) → Q (.inl (some (.int 0))) M) : pvGood Tm 1 qX11_mayWrite [.ref 0, .ref 7, .int i] M Q := by
  refine pvGood_of (Nat.le_of_ble_eq_true rfl) ?_
  show pvEv Tm 1 qX11_mayWrite 0 [some (.ref 0), some (.ref 7), some (.int i)] [] M Q
  refine pv_aloadn (pc := 0) (n := 1) 1 rfl rfl (fm_dec dtX11_mayWrite 0 rfl) ?_
  refine pv_iconst (pc := 1) (v := 0) (by decide) (fm_dec dtX11_mayWrite 1 rfl) ?_
  refine pv_iald (k := 7) (n := 14) (pc := 2) (by decide) rfl rfl (fm_inl (by decide)) (fm_dec dtX11_mayWrite 2 rfl) ?_
  refine pv_iloadn (pc := 3) (n := 2) 2 rfl rfl (fm_dec dtX11_mayWrite 3 rfl) ?_
  refine pv_iS2 (d' := 0) (pc := 4) pcs_X11_256 (Nat.le_of_ble_eq_true rfl) (by decide) (fm_dec dtX11_mayWrite 4 rfl) ?_
  refine c_has (fun h4 => ?_) (fun h4 => ?_)
  · refine pv_then1 ?_
    refine pv_if_ne (pc := 7) 26 (by decide) (fm_dec dtX11_mayWrite 5 rfl) (fun _ => ?_) (fun hc7 => by exfalso; revert hc7; decide)
    refine pv_iconst (pc := 26) (v := 0) (by decide) (fm_dec dtX11_mayWrite 17 rfl) ?_
    exact pv_zreturn (pc := 27) rfl (by first | exact Or.inr rfl | exact Or.inl rfl) (fm_dec dtX11_mayWrite 18 rfl) (hf (Or.inl h4))
  · refine pv_then1 ?_
    refine pv_if_ne (pc := 7) 26 (by decide) (fm_dec dtX11_mayWrite 5 rfl) (fun hc7 => by exfalso; revert hc7; decide) (fun _ => ?_)
    refine pv_aloadn (pc := 10) (n := 1) 1 rfl rfl (fm_dec dtX11_mayWrite 6 rfl) ?_
    refine pv_iconst (pc := 11) (v := 1) (by decide) (fm_dec dtX11_mayWrite 7 rfl) ?_
    refine pv_iloadn (pc := 12) (n := 2) 2 rfl rfl (fm_dec dtX11_mayWrite 8 rfl) ?_
    refine pv_iadd (pc := 13) (fm_dec dtX11_mayWrite 9 rfl) ?_
    refine pv_iald (k := 7) (n := 14) (pc := 14) (by decide) rfl rfl (ix_in (ix_1 hi (by omega)) (by omega)) (fm_dec dtX11_mayWrite 10 rfl) ?_
    refine pv_aloadn (pc := 15) (n := 1) 1 rfl rfl (fm_dec dtX11_mayWrite 11 rfl) ?_
    refine pv_bipush (pc := 16) (v := 10) (by decide) (fm_dec dtX11_mayWrite 12 rfl) ?_
    refine pv_iald (k := 7) (n := 14) (pc := 18) (by decide) rfl rfl (fm_inl (by decide)) (fm_dec dtX11_mayWrite 13 rfl) ?_
    refine pv_icmp_eq (pc := 19) 26 (by decide) (fm_dec dtX11_mayWrite 14 rfl) (fun hc19 => ?_) (fun hc19 => ?_)
    · refine pv_iconst (pc := 26) (v := 0) (by decide) (fm_dec dtX11_mayWrite 17 rfl) ?_
      exact pv_zreturn (pc := 27) rfl (by first | exact Or.inr rfl | exact Or.inl rfl) (fm_dec dtX11_mayWrite 18 rfl) (hf (Or.inr (by have h9 := i32_cl (ix_1 hi (by omega)); simp only [h9] at hc19; exact hc19)))
    · refine pv_iconst (pc := 22) (v := 1) (by decide) (fm_dec dtX11_mayWrite 15 rfl) ?_
      refine pv_goto (pc := 23) 27 (by decide) (fm_dec dtX11_mayWrite 16 rfl) ?_
      exact pv_zreturn (pc := 27) rfl (by first | exact Or.inr rfl | exact Or.inl rfl) (fm_dec dtX11_mayWrite 18 rfl) (ht h4 (by have h9 := i32_cl (ix_1 hi (by omega)); simp only [h9] at hc19; exact hc19))
set_option maxRecDepth 20000 in
theorem c_writes7 {M : fmM} {Q : fmR → fmM → Prop} {i : Int32} {k : Nat} (hi : i.toInt = k) (hk : k < 8) (h5 : ¬ M.1 4 5 = 0) (hq : Q (.inl none) (wrM M k)) : pvGood Tm 3 qX11_writes [.ref 0, .ref 7, .int i] M Q := by
  refine pvGood_of (Nat.le_of_ble_eq_true rfl) ?_
  show pvEv Tm 3 qX11_writes 0 [some (.ref 0), some (.ref 7), some (.int i)] [] M Q
  refine pv_aloadn (pc := 0) (n := 1) 1 rfl rfl (fm_dec dtX11_writes 0 rfl) ?_
  refine pv_bipush (pc := 1) (v := 9) (by decide) (fm_dec dtX11_writes 1 rfl) ?_
  refine pv_dup2 (pc := 3) rfl rfl (fm_dec dtX11_writes 2 rfl) ?_
  refine pv_iald (k := 7) (n := 14) (pc := 4) (by decide) rfl rfl (fm_inl (by decide)) (fm_dec dtX11_writes 3 rfl) ?_
  refine pv_aloadn (pc := 5) (n := 0) 0 rfl rfl (fm_dec dtX11_writes 4 rfl) ?_
  refine pv_aloadn (pc := 6) (n := 1) 1 rfl rfl (fm_dec dtX11_writes 5 rfl) ?_
  refine pv_iloadn (pc := 7) (n := 2) 2 rfl rfl (fm_dec dtX11_writes 6 rfl) ?_
  refine pv_invV2 (k := 0) (d' := 2) (pc := 8) pcv_X11_290 (by decide) rfl (Nat.le_of_ble_eq_true rfl) (by decide) (fm_dec dtX11_writes 7 rfl) ?_
  refine c_hours7 hi hk h5 ?_
  refine pv_then1 ?_
  refine pv_isub (pc := 11) (fm_dec dtX11_writes 8 rfl) ?_
  refine pv_iast (k := 7) (n := 14) (pc := 12) (by decide) rfl rfl (fm_inl (by decide)) (fm_dec dtX11_writes 9 rfl) ?_
  refine pv_aloadn (pc := 13) (n := 1) 1 rfl rfl (fm_dec dtX11_writes 10 rfl) ?_
  refine pv_iconst (pc := 14) (v := 1) (by decide) (fm_dec dtX11_writes 11 rfl) ?_
  refine pv_iloadn (pc := 15) (n := 2) 2 rfl rfl (fm_dec dtX11_writes 12 rfl) ?_
  refine pv_iadd (pc := 16) (fm_dec dtX11_writes 13 rfl) ?_
  refine pv_aloadn (pc := 17) (n := 1) 1 rfl rfl (fm_dec dtX11_writes 14 rfl) ?_
  refine pv_bipush (pc := 18) (v := 10) (by decide) (fm_dec dtX11_writes 15 rfl) ?_
  refine pv_iald (k := 7) (n := 14) (pc := 20) (by decide) rfl rfl (fm_inl (by decide)) (fm_dec dtX11_writes 16 rfl) ?_
  refine pv_iast (k := 7) (n := 14) (pc := 21) (by decide) rfl rfl (ix_in (ix_1 hi (by omega)) (by omega)) (fm_dec dtX11_writes 17 rfl) ?_
  exact pv_return (pc := 22) rfl (fm_dec dtX11_writes 18 rfl) (by rw [i32_cl (ix_1 hi (by omega))]; exact hq)
set_option maxRecDepth 20000 in
theorem s_does0 {M : fmM} {Q : fmR → fmM → Prop} {b k : Nat} (hb80 : b < 80) (h0 : M.1 (423 + b) 0 = 0) (hi : (M.1 (423 + b) 1).toInt = k) (hk : k < 8) (hI : scInv Tm invM M) (hq : ∀ (n : Int32) (M' : fmM), (n = 0 ∨ n = 1) → scInv Tm invM M' → scFr dsW M M' → Q (.inl (some (.int n))) M') : pvGood Tm 9 qX11_does [.ref 0, .ref 7, .ref (423 + b)] M Q := by
  refine pvGood_of (Nat.le_of_ble_eq_true rfl) ?_
  show pvEv Tm 9 qX11_does 0 [some (.ref 0), some (.ref 7), some (.ref (423 + b)), none] [] M Q
  refine pv_aloadn (pc := 0) (n := 2) 2 rfl rfl (fm_dec dtX11_does 0 rfl) ?_
  refine pv_iconst (pc := 1) (v := 1) (by decide) (fm_dec dtX11_does 1 rfl) ?_
  refine pv_iald (k := (423 + b)) (n := 3) (pc := 2) (rw_step.2.2.2 _ hb80).2.2.1 (rw_step.2.2.2 _ hb80).2.2.2.1 (rw_step.2.2.2 _ hb80).2.2.2.2 (fm_inl (by decide)) (fm_dec dtX11_does 2 rfl) ?_
  refine pv_istoren (pc := 3) (n := 3) 3 rfl (by decide) rfl (fm_dec dtX11_does 3 rfl) ?_
  dsimp only [List.set_cons_zero, List.set_cons_succ]
  refine pv_aloadn (pc := 4) (n := 2) 2 rfl rfl (fm_dec dtX11_does 4 rfl) ?_
  refine pv_iconst (pc := 5) (v := 0) (by decide) (fm_dec dtX11_does 5 rfl) ?_
  refine pv_iald (k := (423 + b)) (n := 3) (pc := 6) (rw_step.2.2.2 _ hb80).2.2.1 (rw_step.2.2.2 _ hb80).2.2.2.1 (rw_step.2.2.2 _ hb80).2.2.2.2 (fm_inl (by decide)) (fm_dec dtX11_does 6 rfl) ?_
  refine pv_table (pc := 7) 32 (by decide) (by have h9 : M.1 (423 + b) (Int32.toNatClampNeg 0) = 0 := h0; rw [h9]; decide) (fm_dec dtX11_does 7 rfl) ?_
  refine pv_aloadn (pc := 32) (n := 0) 0 rfl rfl (fm_dec dtX11_does 8 rfl) ?_
  refine pv_aloadn (pc := 33) (n := 1) 1 rfl rfl (fm_dec dtX11_does 9 rfl) ?_
  refine pv_iloadn (pc := 34) (n := 3) 3 rfl rfl (fm_dec dtX11_does 10 rfl) ?_
  refine pv_invV2 (k := 0) (d' := 1) (pc := 35) pcv_X11_296 (by decide) rfl (Nat.le_of_ble_eq_true rfl) (by decide) (fm_dec dtX11_does 11 rfl) ?_
  refine c_mayWrite7 hi hk (fun _ _ => ?_) (fun _ => ?_)
  · refine pv_then1 ?_
    refine pv_if_eq (pc := 38) 74 (by decide) (fm_dec dtX11_does 12 rfl) (fun hc38 => by exfalso; revert hc38; decide) (fun _ => ?_)
    refine pv_aloadn (pc := 41) (n := 1) 1 rfl rfl (fm_dec dtX11_does 13 rfl) ?_
    refine pv_iloadn (pc := 42) (n := 3) 3 rfl rfl (fm_dec dtX11_does 14 rfl) ?_
    refine pv_iS2 (d' := 0) (pc := 43) pcs_X11_283 (Nat.le_of_ble_eq_true rfl) (by decide) (fm_dec dtX11_does 15 rfl) ?_
    refine c_hasPiece7 hi hk (fun _ => ?_) (fun _ => ?_)
    · refine pv_then1 ?_
      refine pv_aloadn (pc := 46) (n := 2) 2 rfl rfl (fm_dec dtX11_does 16 rfl) ?_
      refine pv_iconst (pc := 47) (v := 0) (by decide) (fm_dec dtX11_does 17 rfl) ?_
      refine pv_iald (k := (423 + b)) (n := 3) (pc := 48) (rw_step.2.2.2 _ hb80).2.2.1 (rw_step.2.2.2 _ hb80).2.2.2.1 (rw_step.2.2.2 _ hb80).2.2.2.2 (fm_inl (by decide)) (fm_dec dtX11_does 18 rfl) ?_
      refine pv_iconst (pc := 49) (v := 1) (by decide) (fm_dec dtX11_does 19 rfl) ?_
      refine pv_icmp_ne (pc := 50) 57 (by decide) (fm_dec dtX11_does 20 rfl) (fun _ => ?_) (fun hc50 => by exfalso; exact absurd (h0.symm.trans hc50) (by decide))
      refine pv_iconst (pc := 57) (v := 0) (by decide) (fm_dec dtX11_does 23 rfl) ?_
      refine pv_icmp_ne (pc := 58) 74 (by decide) (fm_dec dtX11_does 24 rfl) (fun _ => ?_) (fun hc58 => by exfalso; revert hc58; decide)
      refine pv_iconst (pc := 74) (v := 0) (by decide) (fm_dec dtX11_does 33 rfl) ?_
      exact pv_zreturn (pc := 75) rfl (by first | exact Or.inr rfl | exact Or.inl rfl) (fm_dec dtX11_does 34 rfl) (hq 0 M (Or.inl rfl) hI scFr.rfl)
    · refine pv_then1 ?_
      refine pv_aloadn (pc := 46) (n := 2) 2 rfl rfl (fm_dec dtX11_does 16 rfl) ?_
      refine pv_iconst (pc := 47) (v := 0) (by decide) (fm_dec dtX11_does 17 rfl) ?_
      refine pv_iald (k := (423 + b)) (n := 3) (pc := 48) (rw_step.2.2.2 _ hb80).2.2.1 (rw_step.2.2.2 _ hb80).2.2.2.1 (rw_step.2.2.2 _ hb80).2.2.2.2 (fm_inl (by decide)) (fm_dec dtX11_does 18 rfl) ?_
      refine pv_iconst (pc := 49) (v := 1) (by decide) (fm_dec dtX11_does 19 rfl) ?_
      refine pv_icmp_ne (pc := 50) 57 (by decide) (fm_dec dtX11_does 20 rfl) (fun _ => ?_) (fun hc50 => by exfalso; exact absurd (h0.symm.trans hc50) (by decide))
      refine pv_iconst (pc := 57) (v := 0) (by decide) (fm_dec dtX11_does 23 rfl) ?_
      refine pv_icmp_ne (pc := 58) 74 (by decide) (fm_dec dtX11_does 24 rfl) (fun hc58 => by exfalso; revert hc58; decide) (fun _ => ?_)
      refine pv_aloadn (pc := 61) (n := 0) 0 rfl rfl (fm_dec dtX11_does 25 rfl) ?_
      refine pv_aloadn (pc := 62) (n := 1) 1 rfl rfl (fm_dec dtX11_does 26 rfl) ?_
      refine pv_iloadn (pc := 63) (n := 3) 3 rfl rfl (fm_dec dtX11_does 27 rfl) ?_
      refine pv_invV2 (k := 0) (d' := 2) (pc := 64) pcv_X11_290 (by decide) rfl (Nat.le_of_ble_eq_true rfl) (by decide) (fm_dec dtX11_does 28 rfl) ?_
      refine c_hours7 hi hk (told5 hI) ?_
      refine pv_then1 ?_
      refine pv_aloadn (pc := 67) (n := 1) 1 rfl rfl (fm_dec dtX11_does 29 rfl) ?_
      refine pv_bipush (pc := 68) (v := 9) (by decide) (fm_dec dtX11_does 30 rfl) ?_
      refine pv_iald (k := 7) (n := 14) (pc := 70) (by decide) rfl rfl (fm_inl (by decide)) (fm_dec dtX11_does 31 rfl) ?_
      refine pv_icmp_le (pc := 71) 76 (by decide) (fm_dec dtX11_does 32 rfl) (fun hc71 => ?_) (fun hc71 => ?_)
      · refine pv_aloadn (pc := 76) (n := 0) 0 rfl rfl (fm_dec dtX11_does 35 rfl) ?_
        refine pv_aloadn (pc := 77) (n := 1) 1 rfl rfl (fm_dec dtX11_does 36 rfl) ?_
        refine pv_iloadn (pc := 78) (n := 3) 3 rfl rfl (fm_dec dtX11_does 37 rfl) ?_
        refine pv_invV2 (k := 0) (d' := 3) (pc := 79) pcv_X11_299 (by decide) rfl (Nat.le_of_ble_eq_true rfl) (by decide) (fm_dec dtX11_does 38 rfl) ?_
        refine c_writes7 hi hk (told5 hI) ?_
        refine pv_then0 ?_
        refine pv_iconst (pc := 82) (v := 1) (by decide) (fm_dec dtX11_does 39 rfl) ?_
        exact pv_zreturn (pc := 83) rfl (by first | exact Or.inr rfl | exact Or.inl rfl) (fm_dec dtX11_does 40 rfl) (hq 1 _ (Or.inr rfl) (inv_writes hI hk hc71) (fr_writes hk))
      · refine pv_iconst (pc := 74) (v := 0) (by decide) (fm_dec dtX11_does 33 rfl) ?_
        exact pv_zreturn (pc := 75) rfl (by first | exact Or.inr rfl | exact Or.inl rfl) (fm_dec dtX11_does 34 rfl) (hq 0 M (Or.inl rfl) hI scFr.rfl)
  · refine pv_then1 ?_
    refine pv_if_eq (pc := 38) 74 (by decide) (fm_dec dtX11_does 12 rfl) (fun _ => ?_) (fun hc38 => by exfalso; revert hc38; decide)
    refine pv_iconst (pc := 74) (v := 0) (by decide) (fm_dec dtX11_does 33 rfl) ?_
    exact pv_zreturn (pc := 75) rfl (by first | exact Or.inr rfl | exact Or.inl rfl) (fm_dec dtX11_does 34 rfl) (hq 0 M (Or.inl rfl) hI scFr.rfl)
set_option maxRecDepth 20000 in
theorem s_does1 {M : fmM} {Q : fmR → fmM → Prop} {b k : Nat} (hb80 : b < 80) (h0 : M.1 (423 + b) 0 = 1) (hi : (M.1 (423 + b) 1).toInt = k) (hk : k < 8) (hI : scInv Tm invM M) (hq : ∀ (n : Int32) (M' : fmM), (n = 0 ∨ n = 1) → scInv Tm invM M' → scFr dsW M M' → Q (.inl (some (.int n))) M') : pvGood Tm 9 qX11_does [.ref 0, .ref 7, .ref (423 + b)] M Q := by
  refine pvGood_of (Nat.le_of_ble_eq_true rfl) ?_
  show pvEv Tm 9 qX11_does 0 [some (.ref 0), some (.ref 7), some (.ref (423 + b)), none] [] M Q
  refine pv_aloadn (pc := 0) (n := 2) 2 rfl rfl (fm_dec dtX11_does 0 rfl) ?_
  refine pv_iconst (pc := 1) (v := 1) (by decide) (fm_dec dtX11_does 1 rfl) ?_
  refine pv_iald (k := (423 + b)) (n := 3) (pc := 2) (rw_step.2.2.2 _ hb80).2.2.1 (rw_step.2.2.2 _ hb80).2.2.2.1 (rw_step.2.2.2 _ hb80).2.2.2.2 (fm_inl (by decide)) (fm_dec dtX11_does 2 rfl) ?_
  refine pv_istoren (pc := 3) (n := 3) 3 rfl (by decide) rfl (fm_dec dtX11_does 3 rfl) ?_
  dsimp only [List.set_cons_zero, List.set_cons_succ]
  refine pv_aloadn (pc := 4) (n := 2) 2 rfl rfl (fm_dec dtX11_does 4 rfl) ?_
  refine pv_iconst (pc := 5) (v := 0) (by decide) (fm_dec dtX11_does 5 rfl) ?_
  refine pv_iald (k := (423 + b)) (n := 3) (pc := 6) (rw_step.2.2.2 _ hb80).2.2.1 (rw_step.2.2.2 _ hb80).2.2.2.1 (rw_step.2.2.2 _ hb80).2.2.2.2 (fm_inl (by decide)) (fm_dec dtX11_does 6 rfl) ?_
  refine pv_table (pc := 7) 32 (by decide) (by have h9 : M.1 (423 + b) (Int32.toNatClampNeg 0) = 1 := h0; rw [h9]; decide) (fm_dec dtX11_does 7 rfl) ?_
  refine pv_aloadn (pc := 32) (n := 0) 0 rfl rfl (fm_dec dtX11_does 8 rfl) ?_
  refine pv_aloadn (pc := 33) (n := 1) 1 rfl rfl (fm_dec dtX11_does 9 rfl) ?_
  refine pv_iloadn (pc := 34) (n := 3) 3 rfl rfl (fm_dec dtX11_does 10 rfl) ?_
  refine pv_invV2 (k := 0) (d' := 1) (pc := 35) pcv_X11_296 (by decide) rfl (Nat.le_of_ble_eq_true rfl) (by decide) (fm_dec dtX11_does 11 rfl) ?_
  refine c_mayWrite7 hi hk (fun _ _ => ?_) (fun _ => ?_)
  · refine pv_then1 ?_
    refine pv_if_eq (pc := 38) 74 (by decide) (fm_dec dtX11_does 12 rfl) (fun hc38 => by exfalso; revert hc38; decide) (fun _ => ?_)
    refine pv_aloadn (pc := 41) (n := 1) 1 rfl rfl (fm_dec dtX11_does 13 rfl) ?_
    refine pv_iloadn (pc := 42) (n := 3) 3 rfl rfl (fm_dec dtX11_does 14 rfl) ?_
    refine pv_iS2 (d' := 0) (pc := 43) pcs_X11_283 (Nat.le_of_ble_eq_true rfl) (by decide) (fm_dec dtX11_does 15 rfl) ?_
    refine c_hasPiece7 hi hk (fun _ => ?_) (fun _ => ?_)
    · refine pv_then1 ?_
      refine pv_aloadn (pc := 46) (n := 2) 2 rfl rfl (fm_dec dtX11_does 16 rfl) ?_
      refine pv_iconst (pc := 47) (v := 0) (by decide) (fm_dec dtX11_does 17 rfl) ?_
      refine pv_iald (k := (423 + b)) (n := 3) (pc := 48) (rw_step.2.2.2 _ hb80).2.2.1 (rw_step.2.2.2 _ hb80).2.2.2.1 (rw_step.2.2.2 _ hb80).2.2.2.2 (fm_inl (by decide)) (fm_dec dtX11_does 18 rfl) ?_
      refine pv_iconst (pc := 49) (v := 1) (by decide) (fm_dec dtX11_does 19 rfl) ?_
      refine pv_icmp_ne (pc := 50) 57 (by decide) (fm_dec dtX11_does 20 rfl) (fun hc50 => by exfalso; exact hc50 h0) (fun _ => ?_)
      refine pv_iconst (pc := 53) (v := 1) (by decide) (fm_dec dtX11_does 21 rfl) ?_
      refine pv_goto (pc := 54) 58 (by decide) (fm_dec dtX11_does 22 rfl) ?_
      refine pv_icmp_ne (pc := 58) 74 (by decide) (fm_dec dtX11_does 24 rfl) (fun hc58 => by exfalso; revert hc58; decide) (fun _ => ?_)
      refine pv_aloadn (pc := 61) (n := 0) 0 rfl rfl (fm_dec dtX11_does 25 rfl) ?_
      refine pv_aloadn (pc := 62) (n := 1) 1 rfl rfl (fm_dec dtX11_does 26 rfl) ?_
      refine pv_iloadn (pc := 63) (n := 3) 3 rfl rfl (fm_dec dtX11_does 27 rfl) ?_
      refine pv_invV2 (k := 0) (d' := 2) (pc := 64) pcv_X11_290 (by decide) rfl (Nat.le_of_ble_eq_true rfl) (by decide) (fm_dec dtX11_does 28 rfl) ?_
      refine c_hours7 hi hk (told5 hI) ?_
      refine pv_then1 ?_
      refine pv_aloadn (pc := 67) (n := 1) 1 rfl rfl (fm_dec dtX11_does 29 rfl) ?_
      refine pv_bipush (pc := 68) (v := 9) (by decide) (fm_dec dtX11_does 30 rfl) ?_
      refine pv_iald (k := 7) (n := 14) (pc := 70) (by decide) rfl rfl (fm_inl (by decide)) (fm_dec dtX11_does 31 rfl) ?_
      refine pv_icmp_le (pc := 71) 76 (by decide) (fm_dec dtX11_does 32 rfl) (fun hc71 => ?_) (fun hc71 => ?_)
      · refine pv_aloadn (pc := 76) (n := 0) 0 rfl rfl (fm_dec dtX11_does 35 rfl) ?_
        refine pv_aloadn (pc := 77) (n := 1) 1 rfl rfl (fm_dec dtX11_does 36 rfl) ?_
        refine pv_iloadn (pc := 78) (n := 3) 3 rfl rfl (fm_dec dtX11_does 37 rfl) ?_
        refine pv_invV2 (k := 0) (d' := 3) (pc := 79) pcv_X11_299 (by decide) rfl (Nat.le_of_ble_eq_true rfl) (by decide) (fm_dec dtX11_does 38 rfl) ?_
        refine c_writes7 hi hk (told5 hI) ?_
        refine pv_then0 ?_
        refine pv_iconst (pc := 82) (v := 1) (by decide) (fm_dec dtX11_does 39 rfl) ?_
        exact pv_zreturn (pc := 83) rfl (by first | exact Or.inr rfl | exact Or.inl rfl) (fm_dec dtX11_does 40 rfl) (hq 1 _ (Or.inr rfl) (inv_writes hI hk hc71) (fr_writes hk))
      · refine pv_iconst (pc := 74) (v := 0) (by decide) (fm_dec dtX11_does 33 rfl) ?_
        exact pv_zreturn (pc := 75) rfl (by first | exact Or.inr rfl | exact Or.inl rfl) (fm_dec dtX11_does 34 rfl) (hq 0 M (Or.inl rfl) hI scFr.rfl)
    · refine pv_then1 ?_
      refine pv_aloadn (pc := 46) (n := 2) 2 rfl rfl (fm_dec dtX11_does 16 rfl) ?_
      refine pv_iconst (pc := 47) (v := 0) (by decide) (fm_dec dtX11_does 17 rfl) ?_
      refine pv_iald (k := (423 + b)) (n := 3) (pc := 48) (rw_step.2.2.2 _ hb80).2.2.1 (rw_step.2.2.2 _ hb80).2.2.2.1 (rw_step.2.2.2 _ hb80).2.2.2.2 (fm_inl (by decide)) (fm_dec dtX11_does 18 rfl) ?_
      refine pv_iconst (pc := 49) (v := 1) (by decide) (fm_dec dtX11_does 19 rfl) ?_
      refine pv_icmp_ne (pc := 50) 57 (by decide) (fm_dec dtX11_does 20 rfl) (fun hc50 => by exfalso; exact hc50 h0) (fun _ => ?_)
      refine pv_iconst (pc := 53) (v := 1) (by decide) (fm_dec dtX11_does 21 rfl) ?_
      refine pv_goto (pc := 54) 58 (by decide) (fm_dec dtX11_does 22 rfl) ?_
      refine pv_icmp_ne (pc := 58) 74 (by decide) (fm_dec dtX11_does 24 rfl) (fun _ => ?_) (fun hc58 => by exfalso; revert hc58; decide)
      refine pv_iconst (pc := 74) (v := 0) (by decide) (fm_dec dtX11_does 33 rfl) ?_
      exact pv_zreturn (pc := 75) rfl (by first | exact Or.inr rfl | exact Or.inl rfl) (fm_dec dtX11_does 34 rfl) (hq 0 M (Or.inl rfl) hI scFr.rfl)
  · refine pv_then1 ?_
    refine pv_if_eq (pc := 38) 74 (by decide) (fm_dec dtX11_does 12 rfl) (fun _ => ?_) (fun hc38 => by exfalso; revert hc38; decide)
    refine pv_iconst (pc := 74) (v := 0) (by decide) (fm_dec dtX11_does 33 rfl) ?_
    exact pv_zreturn (pc := 75) rfl (by first | exact Or.inr rfl | exact Or.inl rfl) (fm_dec dtX11_does 34 rfl) (hq 0 M (Or.inl rfl) hI scFr.rfl)
set_option maxRecDepth 20000 in
theorem s_does2 {M : fmM} {Q : fmR → fmM → Prop} {b k : Nat} (hb80 : b < 80) (h0 : M.1 (423 + b) 0 = 2) (hi : (M.1 (423 + b) 1).toInt = k) (hk : k < 8) (hI : scInv Tm invM M) (hq : ∀ (n : Int32) (M' : fmM), (n = 0 ∨ n = 1) → scInv Tm invM M' → scFr dsW M M' → Q (.inl (some (.int n))) M') : pvGood Tm 9 qX11_does [.ref 0, .ref 7, .ref (423 + b)] M Q := by
  refine pvGood_of (Nat.le_of_ble_eq_true rfl) ?_
  show pvEv Tm 9 qX11_does 0 [some (.ref 0), some (.ref 7), some (.ref (423 + b)), none] [] M Q
  refine pv_aloadn (pc := 0) (n := 2) 2 rfl rfl (fm_dec dtX11_does 0 rfl) ?_
  refine pv_iconst (pc := 1) (v := 1) (by decide) (fm_dec dtX11_does 1 rfl) ?_
  refine pv_iald (k := (423 + b)) (n := 3) (pc := 2) (rw_step.2.2.2 _ hb80).2.2.1 (rw_step.2.2.2 _ hb80).2.2.2.1 (rw_step.2.2.2 _ hb80).2.2.2.2 (fm_inl (by decide)) (fm_dec dtX11_does 2 rfl) ?_
  refine pv_istoren (pc := 3) (n := 3) 3 rfl (by decide) rfl (fm_dec dtX11_does 3 rfl) ?_
  dsimp only [List.set_cons_zero, List.set_cons_succ]
  refine pv_aloadn (pc := 4) (n := 2) 2 rfl rfl (fm_dec dtX11_does 4 rfl) ?_
  refine pv_iconst (pc := 5) (v := 0) (by decide) (fm_dec dtX11_does 5 rfl) ?_
  refine pv_iald (k := (423 + b)) (n := 3) (pc := 6) (rw_step.2.2.2 _ hb80).2.2.1 (rw_step.2.2.2 _ hb80).2.2.2.1 (rw_step.2.2.2 _ hb80).2.2.2.2 (fm_inl (by decide)) (fm_dec dtX11_does 6 rfl) ?_
  refine pv_table (pc := 7) 84 (by decide) (by have h9 : M.1 (423 + b) (Int32.toNatClampNeg 0) = 2 := h0; rw [h9]; decide) (fm_dec dtX11_does 7 rfl) ?_
  refine pv_aloadn (pc := 84) (n := 1) 1 rfl rfl (fm_dec dtX11_does 41 rfl) ?_
  refine pv_iconst (pc := 85) (v := 0) (by decide) (fm_dec dtX11_does 42 rfl) ?_
  refine pv_iald (k := 7) (n := 14) (pc := 86) (by decide) rfl rfl (fm_inl (by decide)) (fm_dec dtX11_does 43 rfl) ?_
  refine pv_iloadn (pc := 87) (n := 3) 3 rfl rfl (fm_dec dtX11_does 44 rfl) ?_
  refine pv_iS2 (d' := 0) (pc := 88) pcs_X11_256 (Nat.le_of_ble_eq_true rfl) (by decide) (fm_dec dtX11_does 45 rfl) ?_
  refine c_has (fun _ => ?_) (fun _ => ?_)
  · refine pv_then1 ?_
    refine pv_if_eq (pc := 91) 96 (by decide) (fm_dec dtX11_does 46 rfl) (fun hc91 => by exfalso; revert hc91; decide) (fun _ => ?_)
    refine pv_iconst (pc := 94) (v := 0) (by decide) (fm_dec dtX11_does 47 rfl) ?_
    exact pv_zreturn (pc := 95) rfl (by first | exact Or.inr rfl | exact Or.inl rfl) (fm_dec dtX11_does 48 rfl) (hq 0 M (Or.inl rfl) hI scFr.rfl)
  · refine pv_then1 ?_
    refine pv_if_eq (pc := 91) 96 (by decide) (fm_dec dtX11_does 46 rfl) (fun _ => ?_) (fun hc91 => by exfalso; revert hc91; decide)
    refine pv_aloadn (pc := 96) (n := 0) 0 rfl rfl (fm_dec dtX11_does 49 rfl) ?_
    refine pv_aloadn (pc := 97) (n := 1) 1 rfl rfl (fm_dec dtX11_does 50 rfl) ?_
    refine pv_iloadn (pc := 98) (n := 3) 3 rfl rfl (fm_dec dtX11_does 51 rfl) ?_
    refine pv_invV2 (k := 0) (d' := 8) (pc := 99) pcv_X11_303 (by decide) rfl (Nat.le_of_ble_eq_true rfl) (by decide) (fm_dec dtX11_does 52 rfl) ?_
    refine s_dies7 hi hk hI (fun M99 hI99 f99 => ?_)
    refine pv_then0 ?_
    refine pv_iconst (pc := 102) (v := 1) (by decide) (fm_dec dtX11_does 53 rfl) ?_
    exact pv_zreturn (pc := 103) rfl (by first | exact Or.inr rfl | exact Or.inl rfl) (fm_dec dtX11_does 54 rfl) (hq 1 M99 (Or.inr rfl) hI99 f99)
set_option maxRecDepth 20000 in
theorem s_does3 {M : fmM} {Q : fmR → fmM → Prop} {b : Nat} (hb80 : b < 80) (h0 : M.1 (423 + b) 0 = 3) (hI : scInv Tm invM M) (hq : ∀ (n : Int32) (M' : fmM), (n = 0 ∨ n = 1) → scInv Tm invM M' → scFr dsW M M' → Q (.inl (some (.int n))) M') : pvGood Tm 9 qX11_does [.ref 0, .ref 7, .ref (423 + b)] M Q := by
  refine pvGood_of (Nat.le_of_ble_eq_true rfl) ?_
  show pvEv Tm 9 qX11_does 0 [some (.ref 0), some (.ref 7), some (.ref (423 + b)), none] [] M Q
  refine pv_aloadn (pc := 0) (n := 2) 2 rfl rfl (fm_dec dtX11_does 0 rfl) ?_
  refine pv_iconst (pc := 1) (v := 1) (by decide) (fm_dec dtX11_does 1 rfl) ?_
  refine pv_iald (k := (423 + b)) (n := 3) (pc := 2) (rw_step.2.2.2 _ hb80).2.2.1 (rw_step.2.2.2 _ hb80).2.2.2.1 (rw_step.2.2.2 _ hb80).2.2.2.2 (fm_inl (by decide)) (fm_dec dtX11_does 2 rfl) ?_
  refine pv_istoren (pc := 3) (n := 3) 3 rfl (by decide) rfl (fm_dec dtX11_does 3 rfl) ?_
  dsimp only [List.set_cons_zero, List.set_cons_succ]
  refine pv_aloadn (pc := 4) (n := 2) 2 rfl rfl (fm_dec dtX11_does 4 rfl) ?_
  refine pv_iconst (pc := 5) (v := 0) (by decide) (fm_dec dtX11_does 5 rfl) ?_
  refine pv_iald (k := (423 + b)) (n := 3) (pc := 6) (rw_step.2.2.2 _ hb80).2.2.1 (rw_step.2.2.2 _ hb80).2.2.2.1 (rw_step.2.2.2 _ hb80).2.2.2.2 (fm_inl (by decide)) (fm_dec dtX11_does 6 rfl) ?_
  refine pv_table (pc := 7) 104 (by decide) (by have h9 : M.1 (423 + b) (Int32.toNatClampNeg 0) = 3 := h0; rw [h9]; decide) (fm_dec dtX11_does 7 rfl) ?_
  refine pv_aloadn (pc := 104) (n := 0) 0 rfl rfl (fm_dec dtX11_does 55 rfl) ?_
  refine pv_aloadn (pc := 105) (n := 1) 1 rfl rfl (fm_dec dtX11_does 56 rfl) ?_
  refine pv_invV1 (k := 0) (d' := 0) (pc := 106) pcv_X11_306 (by decide) rfl (Nat.le_of_ble_eq_true rfl) (by decide) (fm_dec dtX11_does 57 rfl) ?_
  refine s_week7 hI (fun n106 M106 z106 hI106 f106 => ?_)
  refine pv_then1 ?_
  exact pv_zreturn (pc := 109) rfl z106 (fm_dec dtX11_does 58 rfl) (hq n106 M106 z106 hI106 f106)
theorem s_does {M : fmM} {Q : fmR → fmM → Prop} {b kd v l : Nat} (hb : b < 80) (h0 : (M.1 (423 + b) 0).toInt = kd) (hkd : kd ≤ 3) (h1 : kd < 3 → (M.1 (423 + b) 1).toInt = v ∧ v < l) (hl : l ≤ 8) (hI : scInv Tm invM M) (hq : ∀ (n : Int32) (M' : fmM), (n = 0 ∨ n = 1) → scInv Tm invM M' → scFr dsW M M' → Q (.inl (some (.int n))) M') : pvGood Tm 9 qX11_does [.ref 0, .ref 7, .ref (423 + b)] M Q := by
  have hx : M.1 (423 + b) 0 = nI kd := nI_is h0 (by omega)
  rcases (show kd = 0 ∨ kd = 1 ∨ kd = 2 ∨ kd = 3 by omega) with rfl | rfl | rfl | rfl
  · exact s_does0 hb hx (h1 (by decide)).1 (by have := (h1 (by decide)).2; omega) hI hq
  · exact s_does1 hb hx (h1 (by decide)).1 (by have := (h1 (by decide)).2; omega) hI hq
  · exact s_does2 hb hx (h1 (by decide)).1 (by have := (h1 (by decide)).2; omega) hI hq
  · exact s_does3 hb hx hI hq
end
-- P 12v
section
/-- a step as it stands at b, of n, with l lives -/
def gStep (M : fmM) (l b n : Nat) : Prop := ∃ kd v e : Nat, (M.1 (423 + b) 0).toInt = kd ∧ kd ≤ 4 ∧ (kd < 3 → (M.1 (423 + b) 1).toInt = v ∧ v < l) ∧ (kd = 4 → (M.1 (423 + b) 1).toInt = v ∧ v ≤ 20) ∧ (M.1 (423 + b) 2).toInt = e ∧ b < e ∧ e ≤ n
def gSt (M : fmM) (n l g : Nat) : Prop := n ≤ 80 ∧ l ≤ 8 ∧ (M.1 4 0).toInt = l ∧ (∀ b, b < n → gStep M l b n) ∧ scInv Tm invM M ∧ (M.1 0 36).toInt = (g : Int) ∧ g ≤ 200
theorem gsW_k {k j : Nat} (h : k = 4 ∨ 423 ≤ k) : scIn gsW k j = false := by
  simp only [scIn, List.any_cons, List.any_nil, Bool.or_false]
  have e : ∀ q : Nat, (q = 0 ∨ q = 5 ∨ q = 6 ∨ q = 7) → (q == k) = false := fun q hq => by
    rw [beq_eq_false_iff_ne]
    omega
  rw [e 0 (by omega), e 5 (by omega), e 6 (by omega), e 7 (by omega)]
  rfl
theorem gSt.fr {M M' : fmM} {n l g g' : Nat} (h : gSt M n l g) (hf : scFr gsW M M') (hI : scInv Tm invM M') (hg : (M'.1 0 36).toInt = (g' : Int)) (h2 : g' ≤ 200) : gSt M' n l g' := by
  obtain ⟨a1, a2, a3, a4, a5, a6, a7⟩ := h
  refine ⟨a1, a2, (by rw [(hf 4 0 rfl).1]; exact a3), fun b hb => ?_, hI, hg, h2⟩
  obtain ⟨kd, v, e, b1, b2, b3, b4, b5, b6, b7⟩ := a4 b hb
  have e9 : ∀ j, M'.1 (423 + b) j = M.1 (423 + b) j := fun j => (hf _ _ (gsW_k (by omega))).1
  exact ⟨kd, v, e, by rw [e9]; exact b1, b2, fun h => by rw [e9]; exact b3 h, fun h => by rw [e9]; exact b4 h, by rw [e9]; exact b5, b6, b7⟩
theorem gsFr.trans {M M1 M2 : fmM} (h : scFr gsW M M1) (h' : scFr gsW M1 M2) : scFr gsW M M2 := scFr.trans h h' (by decide)
theorem dsFr.gs {M M1 M2 : fmM} (h : scFr gsW M M1) (h' : scFr dsW M1 M2) : scFr gsW M M2 := scFr.trans h h' (by decide)
theorem inv_c0g {M : fmM} {j : Nat} {x : Int32} (hI : scInv Tm invM M) (hj : j = 33 ∨ j = 36 ∨ j = 37) : scInv Tm invM (fmI M 0 j x) := by
  rcases hj with rfl | rfl | rfl <;> exact hI.put (scq_t x) rfl
theorem fr_c0g {M0 M : fmM} {j : Nat} {x : Int32} (h : scFr gsW M0 M) (hj : j = 33 ∨ j = 36 ∨ j = 37) : scFr gsW M0 (fmI M 0 j x) := by
  rcases hj with rfl | rfl | rfl <;> exact scFr.toI h rfl
/-- the end of steps from begun g -/
def gsE (Q : fmR → fmM → Prop) (M : fmM) (g : Nat) : Prop := ∀ (M' : fmM) (g' : Nat), scInv Tm invM M' → scFr gsW M M' → (M'.1 0 36).toInt = (g' : Int) → g ≤ g' → g' ≤ 200 → Q (.inl none) M'
theorem gsE.fr {Q : fmR → fmM → Prop} {M M1 : fmM} {g g1 : Nat} (h : gsE Q M g) (hf : scFr gsW M M1) (hg : g ≤ g1) : gsE Q M1 g1 := fun M' g' a b c d e => h M' g' a (gsFr.trans hf b) c (by omega) e
def gsP (m : Nat) : Prop := ∀ (M : fmM) (Q : fmR → fmM → Prop) (n l g sN tN : Nat) (fr to s : Int32) (v4 : Option Value), gSt M n l g → g + m = 200 → s.toInt = sN → to.toInt = tN → tN ≤ n → gsE Q M g → pvEv Tm (12 + m) qX11_goes 2 [some (.ref 0), some (.int fr), some (.int to), some (.int s), v4] [] M Q
def gsG (m : Nat) : Prop := ∀ (M : fmM) (Q : fmR → fmM → Prop) (n l g sN tN : Nat) (s to : Int32), gSt M n l g → g + m = 200 → s.toInt = sN → to.toInt = tN → tN ≤ n → gsE Q M g → pvGood Tm (12 + m) qX11_goes [.ref 0, .int s, .int to] M Q
set_option maxRecDepth 20000 in
theorem gs_t {Q : fmR → fmM → Prop} {m : Nat} (ih : ∀ m' : Nat, m' < m → gsP m') {M : fmM} {n l g sN tN : Nat} {fr to s : Int32} {v4 : Option Value} (hG : gSt M n l g) (hg : 200 - g < m) (hs : s.toInt = sN) (hsn : sN < n) (ht : to.toInt = tN) (htn : tN ≤ n) (hq : gsE Q M g) : pvEv Tm (12 + m) qX11_goes 143 [some (.ref 0), some (.int fr), some (.int to), some (.int s), v4] [] M Q := by
  have hs80 : sN < 80 := (by have := hG.1; omega)
  obtain ⟨kd, v, e, b1, b2, b3, b4, b5, b6, b7⟩ := hG.2.2.2.1 sN hsn
  refine pv_aloadn (pc := 143) (n := 0) 0 rfl rfl (fm_dec dtX11_goes 80 rfl) ?_
  refine pv_getR (k := 0) (j := 25) (ci := 11) (pc := 144) 24 rfl (by decide) pfl_X11_58 (by decide) rfl (by decide) (fm_dec dtX11_goes 81 rfl) ?_
  refine pv_iloadn (pc := 147) (n := 3) 3 rfl rfl (fm_dec dtX11_goes 82 rfl) ?_
  refine pv_aald (k := 24) (n := 80) (r := (423 + sN)) (pc := 148) (by decide) (Or.inr (Or.inr rfl)) rfl (rw_step.inb hs hs80) (rw_step.at hs hs80) (rw_step.2.2.2 _ hs80).2.1 (fm_dec dtX11_goes 83 rfl) ?_
  refine pv_iconst (pc := 149) (v := 2) (by decide) (fm_dec dtX11_goes 84 rfl) ?_
  refine pv_iald (k := (423 + sN)) (n := 3) (pc := 150) (rw_step.2.2.2 _ hs80).2.2.1 (rw_step.2.2.2 _ hs80).2.2.2.1 (rw_step.2.2.2 _ hs80).2.2.2.2 (fm_inl (by decide)) (fm_dec dtX11_goes 85 rfl) ?_
  refine pv_istoren (pc := 151) (n := 3) 3 rfl (by decide) rfl (fm_dec dtX11_goes 86 rfl) ?_
  dsimp only [List.set_cons_zero, List.set_cons_succ]
  refine pv_goto (pc := 152) 2 (by decide) (fm_dec dtX11_goes 87 rfl) ?_
  exact (ih (200 - g) hg M Q n l g e tN _ _ _ _ hG (by have := hG.2.2.2.2.2.2; omega) b5 ht htn hq).up (by omega)
set_option maxRecDepth 20000 in
theorem gs_in {Q : fmR → fmM → Prop} {m : Nat} (hGG : ∀ m' : Nat, m' < m → gsG m') {n l sN v : Nat} {fr to s : Int32} (hs : s.toInt = sN) (hsn : sN < n) (hv20 : v ≤ 20) : ∀ (q : Nat) (M : fmM) (g c : Nat) (cc : Int32), gSt M n l g → 200 - g < m → (M.1 (423 + sN) 1).toInt = v → cc.toInt = c → c + q = v → (∀ (M' : fmM) (g' : Nat) (v4 : Option Value), gSt M' n l g' → scFr gsW M M' → g ≤ g' → pvEv Tm (12 + m) qX11_goes 143 [some (.ref 0), some (.int fr), some (.int to), some (.int s), v4] [] M' Q) → pvEv Tm (12 + m) qX11_goes 42 [some (.ref 0), some (.int fr), some (.int to), some (.int s), some (.int cc)] [] M Q := by
  intro q
  induction q with
  | zero =>
    intro M g c cc hG hg hv hc hcq hq
    have hs80 : sN < 80 := (by have := hG.1; omega)
    refine pv_iload (pc := 42) (i := 4) rfl (fm_dec dtX11_goes 25 rfl) ?_
    refine pv_aloadn (pc := 44) (n := 0) 0 rfl rfl (fm_dec dtX11_goes 26 rfl) ?_
    refine pv_getR (k := 0) (j := 25) (ci := 11) (pc := 45) 24 rfl (by decide) pfl_X11_58 (by decide) rfl (by decide) (fm_dec dtX11_goes 27 rfl) ?_
    refine pv_iloadn (pc := 48) (n := 3) 3 rfl rfl (fm_dec dtX11_goes 28 rfl) ?_
    refine pv_aald (k := 24) (n := 80) (r := (423 + sN)) (pc := 49) (by decide) (Or.inr (Or.inr rfl)) rfl (rw_step.inb hs hs80) (rw_step.at hs hs80) (rw_step.2.2.2 _ hs80).2.1 (fm_dec dtX11_goes 29 rfl) ?_
    refine pv_iconst (pc := 50) (v := 1) (by decide) (fm_dec dtX11_goes 30 rfl) ?_
    refine pv_iald (k := (423 + sN)) (n := 3) (pc := 51) (rw_step.2.2.2 _ hs80).2.2.1 (rw_step.2.2.2 _ hs80).2.2.2.1 (rw_step.2.2.2 _ hs80).2.2.2.2 (fm_inl (by decide)) (fm_dec dtX11_goes 31 rfl) ?_
    refine pv_icmp_ge (pc := 52) 86 (by decide) (fm_dec dtX11_goes 32 rfl) (fun _ => ?_) (fun hc52 => by exfalso; apply hc52; rw [sc_le]; have h9 : (M.1 (423 + sN) (Int32.toNatClampNeg 1)).toInt = v := hv; omega)
    refine pv_goto (pc := 86) 143 (by decide) (fm_dec dtX11_goes 50 rfl) ?_
    exact hq M g _ hG scFr.rfl (Nat.le_refl _)
  | succ q ih =>
    intro M g c cc hG hg hv hc hcq hq
    have hs80 : sN < 80 := (by have := hG.1; omega)
    obtain ⟨kd, v9, e, b1, b2, b3, b4, b5, b6, b7⟩ := hG.2.2.2.1 sN hsn
    refine pv_iload (pc := 42) (i := 4) rfl (fm_dec dtX11_goes 25 rfl) ?_
    refine pv_aloadn (pc := 44) (n := 0) 0 rfl rfl (fm_dec dtX11_goes 26 rfl) ?_
    refine pv_getR (k := 0) (j := 25) (ci := 11) (pc := 45) 24 rfl (by decide) pfl_X11_58 (by decide) rfl (by decide) (fm_dec dtX11_goes 27 rfl) ?_
    refine pv_iloadn (pc := 48) (n := 3) 3 rfl rfl (fm_dec dtX11_goes 28 rfl) ?_
    refine pv_aald (k := 24) (n := 80) (r := (423 + sN)) (pc := 49) (by decide) (Or.inr (Or.inr rfl)) rfl (rw_step.inb hs hs80) (rw_step.at hs hs80) (rw_step.2.2.2 _ hs80).2.1 (fm_dec dtX11_goes 29 rfl) ?_
    refine pv_iconst (pc := 50) (v := 1) (by decide) (fm_dec dtX11_goes 30 rfl) ?_
    refine pv_iald (k := (423 + sN)) (n := 3) (pc := 51) (rw_step.2.2.2 _ hs80).2.2.1 (rw_step.2.2.2 _ hs80).2.2.2.1 (rw_step.2.2.2 _ hs80).2.2.2.2 (fm_inl (by decide)) (fm_dec dtX11_goes 31 rfl) ?_
    refine pv_icmp_ge (pc := 52) 86 (by decide) (fm_dec dtX11_goes 32 rfl) (fun hc52 => ?_) (fun hc52 => ?_)
    · refine pv_goto (pc := 86) 143 (by decide) (fm_dec dtX11_goes 50 rfl) ?_
      exact hq M g _ hG scFr.rfl (Nat.le_refl _)
    · have hlt : c < v := (by have h9 : (M.1 (423 + sN) (Int32.toNatClampNeg 1)).toInt = v := hv; rw [sc_le] at hc52; omega)
      refine pv_aloadn (pc := 55) (n := 0) 0 rfl rfl (fm_dec dtX11_goes 33 rfl) ?_
      refine pv_getI (k := 0) (j := 36) (ci := 11) (pc := 56) pfl_X11_310 (by decide) rfl (by decide) (fm_dec dtX11_goes 34 rfl) ?_
      refine pv_sipush (pc := 59) (v := 200) (by decide) (fm_dec dtX11_goes 35 rfl) ?_
      refine pv_icmp_ge (pc := 62) 86 (by decide) (fm_dec dtX11_goes 36 rfl) (fun hc62 => ?_) (fun hc62 => ?_)
      · refine pv_goto (pc := 86) 143 (by decide) (fm_dec dtX11_goes 50 rfl) ?_
        exact hq M g _ hG scFr.rfl (Nat.le_refl _)
      · refine pv_aloadn (pc := 65) (n := 0) 0 rfl rfl (fm_dec dtX11_goes 37 rfl) ?_
        refine pv_iloadn (pc := 66) (n := 3) 3 rfl rfl (fm_dec dtX11_goes 38 rfl) ?_
        refine pv_iconst (pc := 67) (v := 1) (by decide) (fm_dec dtX11_goes 39 rfl) ?_
        refine pv_iadd (pc := 68) (fm_dec dtX11_goes 40 rfl) ?_
        refine pv_aloadn (pc := 69) (n := 0) 0 rfl rfl (fm_dec dtX11_goes 41 rfl) ?_
        refine pv_getR (k := 0) (j := 25) (ci := 11) (pc := 70) 24 rfl (by decide) pfl_X11_58 (by decide) rfl (by decide) (fm_dec dtX11_goes 42 rfl) ?_
        refine pv_iloadn (pc := 73) (n := 3) 3 rfl rfl (fm_dec dtX11_goes 43 rfl) ?_
        refine pv_aald (k := 24) (n := 80) (r := (423 + sN)) (pc := 74) (by decide) (Or.inr (Or.inr rfl)) rfl (rw_step.inb hs hs80) (rw_step.at hs hs80) (rw_step.2.2.2 _ hs80).2.1 (fm_dec dtX11_goes 44 rfl) ?_
        refine pv_iconst (pc := 75) (v := 2) (by decide) (fm_dec dtX11_goes 45 rfl) ?_
        refine pv_iald (k := (423 + sN)) (n := 3) (pc := 76) (rw_step.2.2.2 _ hs80).2.2.1 (rw_step.2.2.2 _ hs80).2.2.2.1 (rw_step.2.2.2 _ hs80).2.2.2.2 (fm_inl (by decide)) (fm_dec dtX11_goes 46 rfl) ?_
        refine pv_invV2 (k := 0) (d' := (12 + (200 - g))) (pc := 77) pcv_X11_313 (by decide) rfl (Nat.le_of_ble_eq_true rfl) (by omega) (fm_dec dtX11_goes 47 rfl) ?_
        refine hGG (200 - g) hg M _ n l g (sN + 1) e (s + 1) _ hG (by have := hG.2.2.2.2.2.2; omega) (i32_p1 hs (by omega)) b5 b7 (fun M77 g77 hI77 f77 hg77 a77 c77 => ?_) 
        refine pv_then0 ?_
        refine pv_iincc (pc := 80) 4 1 (by decide) rfl (by decide) rfl (fm_dec dtX11_goes 48 rfl) ?_
        dsimp only [List.set_cons_zero, List.set_cons_succ]
        refine pv_goto (pc := 83) 42 (by decide) (fm_dec dtX11_goes 49 rfl) ?_
        refine ih M77 g77 (c + 1) _ (hG.fr f77 hI77 hg77 c77) (by omega) (by rw [(f77 _ _ (gsW_k (by omega))).1]; exact hv) (i32_p1 hc (by omega)) (by have h9 := hlt; omega) (fun M9 g9 v9 a b d => hq M9 g9 v9 a (gsFr.trans f77 b) (by omega))
theorem gs_G {m : Nat} (h : gsP m) : gsG m := by
  intro M Q n l g sN tN s to hG hm hs ht htn hq
  refine pvGood_of (Nat.le_of_ble_eq_true rfl) ?_
  show pvEv Tm (12 + m) qX11_goes 0 [some (.ref 0), some (.int s), some (.int to), none, none] [] M Q
  refine pv_iloadn (pc := 0) (n := 1) 1 rfl rfl (fm_dec dtX11_goes 0 rfl) ?_
  refine pv_istoren (pc := 1) (n := 3) 3 rfl (by decide) rfl (fm_dec dtX11_goes 1 rfl) ?_
  dsimp only [List.set_cons_zero, List.set_cons_succ]
  exact h M Q n l g sN tN s to s none hG hm hs ht htn hq
set_option maxRecDepth 20000 in
theorem gs_P : ∀ m, gsP m := by
  intro m
  induction m using Nat.strongRecOn with
  | _ m ih =>
    intro M Q n l g sN tN fr to s v4 hG hm hs ht htn hq
    have h36 := hG.2.2.2.2.2.1
    refine pv_iloadn (pc := 2) (n := 3) 3 rfl rfl (fm_dec dtX11_goes 2 rfl) ?_
    refine pv_iloadn (pc := 3) (n := 2) 2 rfl rfl (fm_dec dtX11_goes 3 rfl) ?_
    refine pv_icmp_ge (pc := 4) 155 (by decide) (fm_dec dtX11_goes 4 rfl) (fun hc4 => ?_) (fun hc4 => ?_)
    · exact pv_return (pc := 155) rfl (fm_dec dtX11_goes 88 rfl) (hq M g hG.2.2.2.2.1 scFr.rfl h36 (Nat.le_refl _) hG.2.2.2.2.2.2)
    · refine pv_aloadn (pc := 7) (n := 0) 0 rfl rfl (fm_dec dtX11_goes 5 rfl) ?_
      refine pv_getI (k := 0) (j := 36) (ci := 11) (pc := 8) pfl_X11_310 (by decide) rfl (by decide) (fm_dec dtX11_goes 6 rfl) ?_
      refine pv_sipush (pc := 11) (v := 200) (by decide) (fm_dec dtX11_goes 7 rfl) ?_
      refine pv_icmp_ge (pc := 14) 155 (by decide) (fm_dec dtX11_goes 8 rfl) (fun hc14 => ?_) (fun hc14 => ?_)
      · exact pv_return (pc := 155) rfl (fm_dec dtX11_goes 88 rfl) (hq M g hG.2.2.2.2.1 scFr.rfl h36 (Nat.le_refl _) hG.2.2.2.2.2.2)
      · have hg2 : g < 200 := (by rw [sc_le] at hc14; have h9 : (200 : Int32).toInt = 200 := (by decide); omega)
        have hsn : sN < n := (by rw [sc_le] at hc4; omega)
        have hs80 : sN < 80 := (by have := hG.1; omega)
        obtain ⟨kd, v, e, b1, b2, b3, b4, b5, b6, b7⟩ := hG.2.2.2.1 sN hsn
        have hI1 := inv_c0g (x := M.1 0 36 + 1) hG.2.2.2.2.1 (Or.inr (Or.inl rfl))
        have f1 := fr_c0g (x := M.1 0 36 + 1) (scFr.rfl (M := M)) (Or.inr (Or.inl rfl))
        have h1r : ∀ j, (fmI M 0 36 (M.1 0 36 + 1)).1 (423 + sN) j = M.1 (423 + sN) j := fun j => by rw [fmI_k _ _ (by omega)]
        have hG1 : gSt (fmI M 0 36 (M.1 0 36 + 1)) n l (g + 1) := hG.fr f1 hI1 (by rw [fmI_s]; exact i32_p1 h36 (by omega)) (by omega)
        refine pv_aloadn (pc := 17) (n := 0) 0 rfl rfl (fm_dec dtX11_goes 9 rfl) ?_
        refine pv_dup (pc := 18) rfl (fm_dec dtX11_goes 10 rfl) ?_
        refine pv_getI (k := 0) (j := 36) (ci := 11) (pc := 19) pfl_X11_310 (by decide) rfl (by decide) (fm_dec dtX11_goes 11 rfl) ?_
        refine pv_iconst (pc := 22) (v := 1) (by decide) (fm_dec dtX11_goes 12 rfl) ?_
        refine pv_iadd (pc := 23) (fm_dec dtX11_goes 13 rfl) ?_
        refine pv_putI (k := 0) (j := 36) (ci := 11) (pc := 24) pfl_X11_310 (by decide) rfl (by decide) (fm_dec dtX11_goes 14 rfl) ?_
        refine pv_aloadn (pc := 27) (n := 0) 0 rfl rfl (fm_dec dtX11_goes 15 rfl) ?_
        refine pv_getR (k := 0) (j := 25) (ci := 11) (pc := 28) 24 rfl (by decide) pfl_X11_58 (by decide) rfl (by decide) (fm_dec dtX11_goes 16 rfl) ?_
        refine pv_iloadn (pc := 31) (n := 3) 3 rfl rfl (fm_dec dtX11_goes 17 rfl) ?_
        refine pv_aald (k := 24) (n := 80) (r := (423 + sN)) (pc := 32) (by decide) (Or.inr (Or.inr rfl)) rfl (rw_step.inb hs hs80) (rw_step.at hs hs80) (rw_step.2.2.2 _ hs80).2.1 (fm_dec dtX11_goes 18 rfl) ?_
        refine pv_iconst (pc := 33) (v := 0) (by decide) (fm_dec dtX11_goes 19 rfl) ?_
        refine pv_iald (k := (423 + sN)) (n := 3) (pc := 34) (rw_step.2.2.2 _ hs80).2.2.1 (rw_step.2.2.2 _ hs80).2.2.2.1 (rw_step.2.2.2 _ hs80).2.2.2.2 (fm_inl (by decide)) (fm_dec dtX11_goes 20 rfl) ?_
        refine pv_iconst (pc := 35) (v := 4) (by decide) (fm_dec dtX11_goes 21 rfl) ?_
        refine pv_icmp_ne (pc := 36) 89 (by decide) (fm_dec dtX11_goes 22 rfl) (fun hc36 => ?_) (fun hc36 => ?_)
        · refine pv_aloadn (pc := 89) (n := 0) 0 rfl rfl (fm_dec dtX11_goes 51 rfl) ?_
          refine pv_aloadn (pc := 90) (n := 0) 0 rfl rfl (fm_dec dtX11_goes 52 rfl) ?_
          refine pv_getR (k := 0) (j := 27) (ci := 11) (pc := 91) 7 rfl (by decide) pfl_X11_61 (by decide) rfl (by decide) (fm_dec dtX11_goes 53 rfl) ?_
          refine pv_aloadn (pc := 94) (n := 0) 0 rfl rfl (fm_dec dtX11_goes 54 rfl) ?_
          refine pv_getR (k := 0) (j := 25) (ci := 11) (pc := 95) 24 rfl (by decide) pfl_X11_58 (by decide) rfl (by decide) (fm_dec dtX11_goes 55 rfl) ?_
          refine pv_iloadn (pc := 98) (n := 3) 3 rfl rfl (fm_dec dtX11_goes 56 rfl) ?_
          refine pv_aald (k := 24) (n := 80) (r := (423 + sN)) (pc := 99) (by decide) (Or.inr (Or.inr rfl)) rfl (rw_step.inb hs hs80) (rw_step.at hs hs80) (rw_step.2.2.2 _ hs80).2.1 (fm_dec dtX11_goes 57 rfl) ?_
          refine pv_invV2 (k := 0) (d' := 9) (pc := 100) pcv_X11_316 (by decide) rfl (Nat.le_of_ble_eq_true rfl) (by omega) (fm_dec dtX11_goes 58 rfl) ?_
          refine s_does hs80 (h1r 0 ▸ b1) (show kd ≤ 3 by have : ¬ kd = 4 := (fun h9 => hc36 (i32_ext ((congrArg Int32.toInt (h1r 0)).trans (b1.trans (by rw [h9]; decide))))); omega) (fun h9 => by rw [h1r 1]; exact b3 h9) hG.2.1 hI1 (fun n100 M100 z100 hI100 f100 => ?_) 
          refine pv_then1 ?_
          rcases z100 with rfl | rfl
          · refine pv_istore (pc := 103) (i := 4) (by decide) rfl (fm_dec dtX11_goes 59 rfl) ?_
            dsimp only [List.set_cons_zero, List.set_cons_succ]
            refine pv_aloadn (pc := 105) (n := 0) 0 rfl rfl (fm_dec dtX11_goes 60 rfl) ?_
            refine pv_dup (pc := 106) rfl (fm_dec dtX11_goes 61 rfl) ?_
            refine pv_getI (k := 0) (j := 37) (ci := 11) (pc := 107) pfl_X11_320 (by decide) rfl (by decide) (fm_dec dtX11_goes 62 rfl) ?_
            refine pv_iload (pc := 110) (i := 4) rfl (fm_dec dtX11_goes 63 rfl) ?_
            refine pv_if_eq (pc := 112) 119 (by decide) (fm_dec dtX11_goes 64 rfl) (fun _ => ?_) (fun hc112 => by exfalso; revert hc112; decide)
            refine pv_iconst (pc := 119) (v := 0) (by decide) (fm_dec dtX11_goes 67 rfl) ?_
            refine pv_iadd (pc := 120) (fm_dec dtX11_goes 68 rfl) ?_
            refine pv_putI (k := 0) (j := 37) (ci := 11) (pc := 121) pfl_X11_320 (by decide) rfl (by decide) (fm_dec dtX11_goes 69 rfl) ?_
            refine pv_aloadn (pc := 124) (n := 0) 0 rfl rfl (fm_dec dtX11_goes 70 rfl) ?_
            refine pv_dup (pc := 125) rfl (fm_dec dtX11_goes 71 rfl) ?_
            refine pv_getI (k := 0) (j := 33) (ci := 11) (pc := 126) pfl_X11_203 (by decide) rfl (by decide) (fm_dec dtX11_goes 72 rfl) ?_
            refine pv_iload (pc := 129) (i := 4) rfl (fm_dec dtX11_goes 73 rfl) ?_
            refine pv_if_eq (pc := 131) 138 (by decide) (fm_dec dtX11_goes 74 rfl) (fun _ => ?_) (fun hc131 => by exfalso; revert hc131; decide)
            refine pv_iconst (pc := 138) (v := 1) (by decide) (fm_dec dtX11_goes 77 rfl) ?_
            refine pv_iadd (pc := 139) (fm_dec dtX11_goes 78 rfl) ?_
            refine pv_putI (k := 0) (j := 33) (ci := 11) (pc := 140) pfl_X11_203 (by decide) rfl (by decide) (fm_dec dtX11_goes 79 rfl) ?_
            have f9 := fr_c0g (x := M100.1 0 37 + 0) (dsFr.gs f1 f100) (Or.inr (Or.inr rfl))
            have f8 := fr_c0g (x := (fmI M100 0 37 (M100.1 0 37 + 0)).1 0 33 + 1) f9 (Or.inl rfl)
            exact gs_t ih (g := g + 1) (hG.fr f8 (inv_c0g (inv_c0g hI100 (Or.inr (Or.inr rfl))) (Or.inl rfl)) (by rw [fmI_j _ _ (by decide), fmI_j _ _ (by decide), (f100 0 36 rfl).1, fmI_s]; exact i32_p1 h36 (by omega)) (by omega)) (by omega) hs hsn ht htn (hq.fr f8 (by omega))
          · refine pv_istore (pc := 103) (i := 4) (by decide) rfl (fm_dec dtX11_goes 59 rfl) ?_
            dsimp only [List.set_cons_zero, List.set_cons_succ]
            refine pv_aloadn (pc := 105) (n := 0) 0 rfl rfl (fm_dec dtX11_goes 60 rfl) ?_
            refine pv_dup (pc := 106) rfl (fm_dec dtX11_goes 61 rfl) ?_
            refine pv_getI (k := 0) (j := 37) (ci := 11) (pc := 107) pfl_X11_320 (by decide) rfl (by decide) (fm_dec dtX11_goes 62 rfl) ?_
            refine pv_iload (pc := 110) (i := 4) rfl (fm_dec dtX11_goes 63 rfl) ?_
            refine pv_if_eq (pc := 112) 119 (by decide) (fm_dec dtX11_goes 64 rfl) (fun hc112 => by exfalso; revert hc112; decide) (fun _ => ?_)
            refine pv_iconst (pc := 115) (v := 1) (by decide) (fm_dec dtX11_goes 65 rfl) ?_
            refine pv_goto (pc := 116) 120 (by decide) (fm_dec dtX11_goes 66 rfl) ?_
            refine pv_iadd (pc := 120) (fm_dec dtX11_goes 68 rfl) ?_
            refine pv_putI (k := 0) (j := 37) (ci := 11) (pc := 121) pfl_X11_320 (by decide) rfl (by decide) (fm_dec dtX11_goes 69 rfl) ?_
            refine pv_aloadn (pc := 124) (n := 0) 0 rfl rfl (fm_dec dtX11_goes 70 rfl) ?_
            refine pv_dup (pc := 125) rfl (fm_dec dtX11_goes 71 rfl) ?_
            refine pv_getI (k := 0) (j := 33) (ci := 11) (pc := 126) pfl_X11_203 (by decide) rfl (by decide) (fm_dec dtX11_goes 72 rfl) ?_
            refine pv_iload (pc := 129) (i := 4) rfl (fm_dec dtX11_goes 73 rfl) ?_
            refine pv_if_eq (pc := 131) 138 (by decide) (fm_dec dtX11_goes 74 rfl) (fun hc131 => by exfalso; revert hc131; decide) (fun _ => ?_)
            refine pv_iconst (pc := 134) (v := 0) (by decide) (fm_dec dtX11_goes 75 rfl) ?_
            refine pv_goto (pc := 135) 139 (by decide) (fm_dec dtX11_goes 76 rfl) ?_
            refine pv_iadd (pc := 139) (fm_dec dtX11_goes 78 rfl) ?_
            refine pv_putI (k := 0) (j := 33) (ci := 11) (pc := 140) pfl_X11_203 (by decide) rfl (by decide) (fm_dec dtX11_goes 79 rfl) ?_
            have f9 := fr_c0g (x := M100.1 0 37 + 1) (dsFr.gs f1 f100) (Or.inr (Or.inr rfl))
            have f8 := fr_c0g (x := (fmI M100 0 37 (M100.1 0 37 + 1)).1 0 33 + 0) f9 (Or.inl rfl)
            exact gs_t ih (g := g + 1) (hG.fr f8 (inv_c0g (inv_c0g hI100 (Or.inr (Or.inr rfl))) (Or.inl rfl)) (by rw [fmI_j _ _ (by decide), fmI_j _ _ (by decide), (f100 0 36 rfl).1, fmI_s]; exact i32_p1 h36 (by omega)) (by omega)) (by omega) hs hsn ht htn (hq.fr f8 (by omega))
        · refine pv_iconst (pc := 39) (v := 0) (by decide) (fm_dec dtX11_goes 23 rfl) ?_
          refine pv_istore (pc := 40) (i := 4) (by decide) rfl (fm_dec dtX11_goes 24 rfl) ?_
          dsimp only [List.set_cons_zero, List.set_cons_succ]
          have hkd : kd = 4 := (by have h9 : ((fmI M 0 36 (M.1 0 36 + 1)).1 (423 + sN) (Int32.toNatClampNeg 0)).toInt = kd := (by rw [show Int32.toNatClampNeg 0 = 0 from rfl, h1r 0]; exact b1); rw [hc36] at h9; have h8 : (4 : Int32).toInt = 4 := (by decide); omega)
          exact gs_in (fun m' h9 => gs_G (ih m' h9)) hs hsn (b4 hkd).2 v _ (g + 1) 0 0 hG1 (by omega) (by rw [h1r 1]; exact (b4 hkd).1) (by decide) (by omega) (fun M' g' v4 h9 f9 a9 => gs_t ih h9 (by omega) hs hsn ht htn (hq.fr (gsFr.trans f1 f9) (by omega)))
end
