-- P 18yd
section
-- STATES KEPT
/-- cells of a state: the object, its ages -/
abbrev stC (k a : Nat) : Prop := k < 190 ∧ Tx.2.1 k = 12 ∧ Tx.2.2.1 k = 7 ∧ Tx.2.2.2 k 0 = a ∧ a < 190 ∧ Tx.2.1 a = 0 ∧ Tx.2.2.1 a = 8
/-- cells of a shelf -/
abbrev shO (z : Nat) : Prop := z < 4 ∧ Tx.2.1 (46 + 36 * z) = 11 ∧ Tx.2.2.1 (46 + 36 * z) = 3 ∧ Tx.2.2.2 (46 + 36 * z) 0 = 47 + 36 * z ∧ Tx.2.2.2 (46 + 36 * z) 1 = 49 + 36 * z ∧ Tx.2.1 (49 + 36 * z) = 4 ∧ Tx.2.2.1 (49 + 36 * z) = 16 ∧ ∀ w, w < 16 → Tx.2.2.2 (49 + 36 * z) w = 50 + 36 * z + w
theorem ho_all : ∀ z, z < 4 → shO z := by decide +kernel
theorem so_n : ∀ z, z < 4 → stC (47 + 36 * z) (48 + 36 * z) := by decide +kernel
theorem so_now {z : Nat} (h : z < 4) : stC (47 + 36 * z) (48 + 36 * z) := so_n z h
theorem so_b : ∀ z, z < 4 → ∀ w, w < 16 → stC (50 + 36 * z + w) (66 + 36 * z + w) := by decide +kernel
theorem so_bef {z w : Nat} (h : z < 4) (hw : w < 16) : stC (50 + 36 * z + w) (66 + 36 * z + w) := so_b z h w hw
/-- a state as it stands in the cells k, a -/
def xsA (k a : Nat) (M : fmM) (D : dD) (S : aS) : Prop := (M.1 k 1).toInt = (S.1.2.2.1 : Int) ∧ (M.1 k 2).toInt = (S.1.1 : Int) ∧ (M.1 k 3).toInt = (S.1.2.1 : Int) ∧ (M.1 k 4).toInt = (S.1.2.2.2.1 : Int) ∧ (M.1 k 5).toInt = (S.1.2.2.2.2.1 : Int) ∧ (M.2 k 6).toInt = S.1.2.2.2.2.2 ∧ ∀ i, i < D.1 → (M.1 a i).toInt = S.2 i
theorem xst_A {M : fmM} {D : dD} {S : aS} : xst M D S ↔ xsA 47 48 M D S := Iff.rfl
/-- the state in d, da is as it was in s, sa -/
def smS (d da s sa : Nat) (M M' : fmM) : Prop := (∀ j, 1 ≤ j → j ≤ 5 → M'.1 d j = M.1 s j) ∧ M'.2 d 6 = M.2 s 6 ∧ ∀ i, i < 8 → M'.1 da i = M.1 sa i
theorem smS.st {d da s sa : Nat} {M M' : fmM} {D : dD} {S : aS} (h : smS d da s sa M M') (hD : D.1 ≤ 8) (hs : xsA s sa M D S) : xsA d da M' D S := by
  obtain ⟨a, b, c, e, f, g, i⟩ := hs
  exact ⟨by rw [h.1 1 (by decide) (by decide)]; exact a, by rw [h.1 2 (by decide) (by decide)]; exact b, by rw [h.1 3 (by decide) (by decide)]; exact c, by rw [h.1 4 (by decide) (by decide)]; exact e, by rw [h.1 5 (by decide) (by decide)]; exact f, by rw [h.2.1]; exact g, fun j hj => by rw [h.2.2 j (by omega)]; exact i j hj⟩
def cpR (d da s sa : Nat) (M M' : fmM) : Prop := smS d da s sa M M' ∧ (∀ k j, k ≠ d → k ≠ da → M'.1 k j = M.1 k j) ∧ ∀ k j, k ≠ d → M'.2 k j = M.2 k j
theorem smS.fr {d da s sa : Nat} {M M' M'' : fmM} (h : smS d da s sa M M') (h1 : ∀ j, M''.1 d j = M'.1 d j) (h2 : ∀ j, M''.1 da j = M'.1 da j) (h3 : M''.2 d 6 = M'.2 d 6) : smS d da s sa M M'' := ⟨fun j a b => (h1 j).trans (h.1 j a b), h3.trans h.2.1, fun i hi => (h2 i).trans (h.2.2 i hi)⟩
theorem smS.src {d da s sa : Nat} {M0 M M' : fmM} (h : smS d da s sa M M') (h1 : ∀ j, M.1 s j = M0.1 s j) (h2 : ∀ j, M.1 sa j = M0.1 sa j) (h3 : M.2 s 6 = M0.2 s 6) : smS d da s sa M0 M' := ⟨fun j a b => (h.1 j a b).trans (h1 j), h.2.1.trans h3, fun i hi => (h.2.2 i hi).trans (h2 i)⟩
def cpN (m : fmM) (d s : Nat) : Nat → fmM
  | 0 => m
  | n + 1 => fmI (cpN m d s n) d (n + 1) ((cpN m d s n).1 s (n + 1))
theorem cpN_at {m : fmM} {d s : Nat} (h : d ≠ s) : ∀ n k j, (cpN m d s n).1 k j = if k = d ∧ 1 ≤ j ∧ j ≤ n then m.1 s j else m.1 k j := by
  intro n
  induction n with
  | zero =>
    intro k j
    rw [if_neg (by omega)]
    rfl
  | succ n ih =>
    intro k j
    show (fmI (cpN m d s n) d (n + 1) ((cpN m d s n).1 s (n + 1))).1 k j = _
    rw [fmI_at]
    by_cases e : k = d ∧ j = n + 1
    · rw [if_pos e, if_pos ⟨e.1, by omega, by omega⟩, ih, if_neg (fun h9 => h h9.1.symm), e.2]
    · rw [if_neg e, ih]
      by_cases e2 : k = d ∧ 1 ≤ j ∧ j ≤ n
      · rw [if_pos e2, if_pos ⟨e2.1, e2.2.1, by omega⟩]
      · rw [if_neg e2, if_neg (by omega)]
theorem cpN_2 {m : fmM} {d s : Nat} : ∀ n, (cpN m d s n).2 = m.2 := by
  intro n
  induction n with
  | zero => rfl
  | succ n ih => exact ih
def cpZ (M : fmM) (d da s sa : Nat) : fmM := fmJ (cpN (cpA M da sa 8) d s 5) d 6 ((cpN (cpA M da sa 8) d s 5).2 s 6)
theorem cpA_at {M : fmM} {da sa k j : Nat} : (cpA M da sa 8).1 k j = if k = da ∧ j < 8 then M.1 sa j else M.1 k j := by
  have e : ∀ j, va_cpy (M.1 sa) (M.1 da) (Int32.toNatClampNeg 0) (Int32.toNatClampNeg 0) (Int32.toNatClampNeg 8) j = if j < 8 then M.1 sa j else M.1 da j := fun j => scq_cpy (M.1 sa) (M.1 da) 8 j
  unfold cpA
  by_cases h : k = da
  · subst h
    rw [fmA_ss, e]
    by_cases h8 : j < 8
    · rw [if_pos h8, if_pos ⟨rfl, h8⟩]
    · rw [if_neg h8, if_neg (fun h9 => h8 h9.2)]
  · rw [fmA_kk h, if_neg (fun h9 => h h9.1)]
theorem cpZ_R {M : fmM} {d da s sa : Nat} (h : d ≠ s ∧ d ≠ sa ∧ da ≠ s ∧ da ≠ sa ∧ d ≠ da) : cpR d da s sa M (cpZ M d da s sa) := by
  obtain ⟨h1, h2, h3, h4, h5⟩ := h
  have e1 : ∀ k j, (cpZ M d da s sa).1 k j = if k = d ∧ 1 ≤ j ∧ j ≤ 5 then (cpA M da sa 8).1 s j else (cpA M da sa 8).1 k j := fun k j => cpN_at h1 5 k j
  have e2 : ∀ k j, (cpZ M d da s sa).2 k j = if k = d then vp_updL (M.2 d) 6 (M.2 s 6) j else M.2 k j := fun k j => by
    show (if k = d then vp_updL ((cpN (cpA M da sa 8) d s 5).2 d) 6 ((cpN (cpA M da sa 8) d s 5).2 s 6) else (cpN (cpA M da sa 8) d s 5).2 k) j = _
    rw [cpN_2]
    by_cases h : k = d
    · rw [if_pos h, if_pos h]
      rfl
    · rw [if_neg h, if_neg h]
      rfl
  refine ⟨⟨fun j a b => ?_, ?_, fun i hi => ?_⟩, fun k j a b => ?_, fun k j a => ?_⟩
  · rw [e1, if_pos ⟨rfl, a, b⟩, cpA_at, if_neg (fun h9 => h3 h9.1.symm)]
  · rw [e2, if_pos rfl]
    simp [vp_updL]
  · rw [e1, if_neg (fun h9 => h5 h9.1.symm), cpA_at, if_pos ⟨rfl, hi⟩]
  · rw [e1, if_neg (fun h9 => a h9.1), cpA_at, if_neg (fun h9 => b h9.1)]
  · rw [e2, if_neg a]
set_option maxRecDepth 20000 in
theorem c_cpS {M : fmM} {Q : fmR → fmM → Prop} {d da s sa : Nat} (hd : stC d da) (hs : stC s sa) (hq : Q (.inl none) (cpZ M d da s sa)) : pvGood Tx 0 qX6_copyFrom [.ref d, .ref s] M Q := by
  refine pvGood_of (Nat.le_of_ble_eq_true rfl) ?_
  show pvEv Tx 0 qX6_copyFrom 0 [some (.ref d), some (.ref s)] [] M Q
  refine pv_aloadn (pc := 0) (n := 1) 1 rfl rfl (fm_dec dtX6_copyFrom 0 rfl) ?_
  refine pv_getR (k := (s)) (j := 0) (ci := 6) (pc := 1) (sa) hs.2.2.2.1 (by have := hs.2.2.2.2.1; omega) pfl_X6_9 hs.1 (hs.2.1.trans rfl) (by rw [hs.2.2.1]; decide) (fm_dec dtX6_copyFrom 1 rfl) ?_
  refine pv_iconst (pc := 4) (v := 0) (by decide) (fm_dec dtX6_copyFrom 2 rfl) ?_
  refine pv_aloadn (pc := 5) (n := 0) 0 rfl rfl (fm_dec dtX6_copyFrom 3 rfl) ?_
  refine pv_getR (k := (d)) (j := 0) (ci := 6) (pc := 6) (da) hd.2.2.2.1 (by have := hd.2.2.2.2.1; omega) pfl_X6_9 hd.1 (hd.2.1.trans rfl) (by rw [hd.2.2.1]; decide) (fm_dec dtX6_copyFrom 4 rfl) ?_
  refine pv_iconst (pc := 9) (v := 0) (by decide) (fm_dec dtX6_copyFrom 5 rfl) ?_
  refine pv_bipush (pc := 10) (v := 8) (by decide) (fm_dec dtX6_copyFrom 6 rfl) ?_
  refine pv_copy (k0 := (sa)) (k1 := (da)) (n0 := 8) (n1 := 8) (pc := 12) pcm_X6_20 pcc_X6_20 hs.2.2.2.2.1 hs.2.2.2.2.2.1 hs.2.2.2.2.2.2 hd.2.2.2.2.1 hd.2.2.2.2.2.1 hd.2.2.2.2.2.2 (by decide) (by decide) (by decide) (by decide) (by decide) (Nat.le_of_ble_eq_true rfl) (fm_dec dtX6_copyFrom 7 rfl) ?_
  show pvEv Tx 0 qX6_copyFrom _ _ _ (cpA M da sa 8) Q
  refine pv_aloadn (pc := 15) (n := 0) 0 rfl rfl (fm_dec dtX6_copyFrom 8 rfl) ?_
  refine pv_aloadn (pc := 16) (n := 1) 1 rfl rfl (fm_dec dtX6_copyFrom 9 rfl) ?_
  refine pv_getI (k := (s)) (j := 1) (ci := 6) (pc := 17) pfl_X6_26 hs.1 (hs.2.1.trans rfl) (by rw [hs.2.2.1]; decide) (fm_dec dtX6_copyFrom 10 rfl) ?_
  refine pv_putI (k := (d)) (j := 1) (ci := 6) (pc := 20) pfl_X6_26 hd.1 (hd.2.1.trans rfl) (by rw [hd.2.2.1]; decide) (fm_dec dtX6_copyFrom 11 rfl) ?_
  show pvEv Tx 0 qX6_copyFrom _ _ _ (cpN (cpA M da sa 8) d s 1) Q
  refine pv_aloadn (pc := 23) (n := 0) 0 rfl rfl (fm_dec dtX6_copyFrom 12 rfl) ?_
  refine pv_aloadn (pc := 24) (n := 1) 1 rfl rfl (fm_dec dtX6_copyFrom 13 rfl) ?_
  refine pv_getI (k := (s)) (j := 2) (ci := 6) (pc := 25) pfl_X6_30 hs.1 (hs.2.1.trans rfl) (by rw [hs.2.2.1]; decide) (fm_dec dtX6_copyFrom 14 rfl) ?_
  refine pv_putI (k := (d)) (j := 2) (ci := 6) (pc := 28) pfl_X6_30 hd.1 (hd.2.1.trans rfl) (by rw [hd.2.2.1]; decide) (fm_dec dtX6_copyFrom 15 rfl) ?_
  show pvEv Tx 0 qX6_copyFrom _ _ _ (cpN (cpA M da sa 8) d s 2) Q
  refine pv_aloadn (pc := 31) (n := 0) 0 rfl rfl (fm_dec dtX6_copyFrom 16 rfl) ?_
  refine pv_aloadn (pc := 32) (n := 1) 1 rfl rfl (fm_dec dtX6_copyFrom 17 rfl) ?_
  refine pv_getI (k := (s)) (j := 3) (ci := 6) (pc := 33) pfl_X6_36 hs.1 (hs.2.1.trans rfl) (by rw [hs.2.2.1]; decide) (fm_dec dtX6_copyFrom 18 rfl) ?_
  refine pv_putI (k := (d)) (j := 3) (ci := 6) (pc := 36) pfl_X6_36 hd.1 (hd.2.1.trans rfl) (by rw [hd.2.2.1]; decide) (fm_dec dtX6_copyFrom 19 rfl) ?_
  show pvEv Tx 0 qX6_copyFrom _ _ _ (cpN (cpA M da sa 8) d s 3) Q
  refine pv_aloadn (pc := 39) (n := 0) 0 rfl rfl (fm_dec dtX6_copyFrom 20 rfl) ?_
  refine pv_aloadn (pc := 40) (n := 1) 1 rfl rfl (fm_dec dtX6_copyFrom 21 rfl) ?_
  refine pv_getI (k := (s)) (j := 4) (ci := 6) (pc := 41) pfl_X6_39 hs.1 (hs.2.1.trans rfl) (by rw [hs.2.2.1]; decide) (fm_dec dtX6_copyFrom 22 rfl) ?_
  refine pv_putI (k := (d)) (j := 4) (ci := 6) (pc := 44) pfl_X6_39 hd.1 (hd.2.1.trans rfl) (by rw [hd.2.2.1]; decide) (fm_dec dtX6_copyFrom 23 rfl) ?_
  show pvEv Tx 0 qX6_copyFrom _ _ _ (cpN (cpA M da sa 8) d s 4) Q
  refine pv_aloadn (pc := 47) (n := 0) 0 rfl rfl (fm_dec dtX6_copyFrom 24 rfl) ?_
  refine pv_aloadn (pc := 48) (n := 1) 1 rfl rfl (fm_dec dtX6_copyFrom 25 rfl) ?_
  refine pv_getI (k := (s)) (j := 5) (ci := 6) (pc := 49) pfl_X6_42 hs.1 (hs.2.1.trans rfl) (by rw [hs.2.2.1]; decide) (fm_dec dtX6_copyFrom 26 rfl) ?_
  refine pv_putI (k := (d)) (j := 5) (ci := 6) (pc := 52) pfl_X6_42 hd.1 (hd.2.1.trans rfl) (by rw [hd.2.2.1]; decide) (fm_dec dtX6_copyFrom 27 rfl) ?_
  show pvEv Tx 0 qX6_copyFrom _ _ _ (cpN (cpA M da sa 8) d s 5) Q
  refine pv_aloadn (pc := 55) (n := 0) 0 rfl rfl (fm_dec dtX6_copyFrom 28 rfl) ?_
  refine pv_aloadn (pc := 56) (n := 1) 1 rfl rfl (fm_dec dtX6_copyFrom 29 rfl) ?_
  refine pv_getJ (k := (s)) (j := 6) (ci := 6) (pc := 57) pfl_X6_45 hs.1 (hs.2.1.trans rfl) (by rw [hs.2.2.1]; decide) (fm_dec dtX6_copyFrom 30 rfl) ?_
  refine pv_putJ (k := (d)) (j := 6) (ci := 6) (pc := 60) pfl_X6_45 hd.1 (hd.2.1.trans rfl) (by rw [hd.2.2.1]; decide) (fm_dec dtX6_copyFrom 31 rfl) ?_
  show pvEv Tx 0 qX6_copyFrom _ _ _ (cpZ M d da s sa) Q
  exact pv_return (pc := 63) rfl (fm_dec dtX6_copyFrom 32 rfl) hq
theorem cp_S {M : fmM} {Q : fmR → fmM → Prop} {d da s sa : Nat} (hd : stC d da) (hs : stC s sa) (hne : d ≠ s ∧ d ≠ sa ∧ da ≠ s ∧ da ≠ sa ∧ d ≠ da) (hq : ∀ M' : fmM, cpR d da s sa M M' → Q (.inl none) M') : pvGood Tx 0 qX6_copyFrom [.ref d, .ref s] M Q := c_cpS hd hs (hq _ (cpZ_R hne))
/-- a shelf as another was: z1 is written, z2 is read -/
def shC (z1 z2 n : Nat) (M M' : fmM) : Prop := smS (47 + 36 * z1) (48 + 36 * z1) (47 + 36 * z2) (48 + 36 * z2) M M' ∧ M'.1 (46 + 36 * z1) 2 = M.1 (46 + 36 * z2) 2 ∧ (∀ w, w < n → w < 16 → smS (50 + 36 * z1 + w) (66 + 36 * z1 + w) (50 + 36 * z2 + w) (66 + 36 * z2 + w) M M') ∧ ∀ k, ¬ (46 + 36 * z1 ≤ k ∧ k < 82 + 36 * z1) → ∀ j, M'.1 k j = M.1 k j ∧ M'.2 k j = M.2 k j
theorem shC.next {z1 z2 n : Nat} {M0 M M' : fmM} (hz : z1 ≠ z2) (hn : n < 16) (h : shC z1 z2 n M0 M) (hc : cpR (50 + 36 * z1 + n) (66 + 36 * z1 + n) (50 + 36 * z2 + n) (66 + 36 * z2 + n) M M') : shC z1 z2 (n + 1) M0 M' := by
  obtain ⟨h1, h2, h3, h4⟩ := h
  obtain ⟨c1, c2, c3⟩ := hc
  refine ⟨h1.fr (fun j => c2 _ j (by omega) (by omega)) (fun j => c2 _ j (by omega) (by omega)) (c3 _ _ (by omega)), (c2 _ _ (by omega) (by omega)).trans h2, fun w hw hw16 => ?_, fun k hk j => ⟨(c2 k j (by omega) (by omega)).trans (h4 k hk j).1, (c3 k j (by omega)).trans (h4 k hk j).2⟩⟩
  by_cases e : w = n
  · subst e
    exact c1.src (fun j => (h4 _ (by omega) j).1) (fun j => (h4 _ (by omega) j).1) (h4 _ (by omega) 6).2
  · exact (h3 w (by omega) hw16).fr (fun j => c2 _ j (by omega) (by omega)) (fun j => c2 _ j (by omega) (by omega)) (c3 _ _ (by omega))
set_option maxRecDepth 20000 in
theorem shc_loop {Q : fmR → fmM → Prop} {z1 z2 : Nat} {M0 : fmM} (h1 : shO z1) (h2 : shO z2) (hz : z1 ≠ z2) (hq : ∀ (M' : fmM) (n : Nat), shC z1 z2 n M0 M' → (M'.1 (46 + 36 * z1) 2).toInt ≤ (n : Int) ∨ 16 ≤ n → Q (.inl none) M') : ∀ (m : Nat) (n : Nat) (M : fmM), n ≤ 16 → 16 - n = m → shC z1 z2 n M0 M → pvEv Tx 1 qX5_copyFrom 21 [some (.ref (46 + 36 * z1)), some (.ref (46 + 36 * z2)), some (.int (nI n))] [] M Q := by
  intro m
  induction m using Nat.strongRecOn with
  | _ m ih =>
    intro n M hn16 hm hK
    have hn9 : (nI n).toInt = (n : Int) := nI_toInt (by omega)
    refine pv_iloadn (pc := 21) (n := 2) 2 rfl rfl (fm_dec dtX5_copyFrom 11 rfl) ?_
    refine pv_aloadn (pc := 22) (n := 0) 0 rfl rfl (fm_dec dtX5_copyFrom 12 rfl) ?_
    refine pv_getI (k := (46 + 36 * z1)) (j := 2) (ci := 5) (pc := 23) pfl_X5_22 (show 46 + 36 * z1 < 190 by have := h1.1; omega) (h1.2.1.trans rfl) (by rw [h1.2.2.1]; decide) (fm_dec dtX5_copyFrom 13 rfl) ?_
    refine pv_icmp_ge (pc := 26) 56 (by decide) (fm_dec dtX5_copyFrom 14 rfl) (fun hc26 => ?_) (fun hc26 => ?_)
    · exact pv_return (pc := 56) rfl (fm_dec dtX5_copyFrom 29 rfl) (hq M n hK (by rw [sc_le] at hc26; omega))
    · refine pv_iloadn (pc := 29) (n := 2) 2 rfl rfl (fm_dec dtX5_copyFrom 15 rfl) ?_
      refine pv_bipush (pc := 30) (v := 16) (by decide) (fm_dec dtX5_copyFrom 16 rfl) ?_
      refine pv_icmp_ge (pc := 32) 56 (by decide) (fm_dec dtX5_copyFrom 17 rfl) (fun hc32 => ?_) (fun hc32 => ?_)
      · exact pv_return (pc := 56) rfl (fm_dec dtX5_copyFrom 29 rfl) (hq M n hK (by rw [sc_le] at hc32; have z16 : (16 : Int32).toInt = 16 := (by decide); omega))
      · have hn : n < 16 := (by rw [sc_le] at hc32; have z16 : (16 : Int32).toInt = 16 := (by decide); omega)
        refine pv_aloadn (pc := 35) (n := 0) 0 rfl rfl (fm_dec dtX5_copyFrom 18 rfl) ?_
        refine pv_getR (k := (46 + 36 * z1)) (j := 1) (ci := 5) (pc := 36) (49 + 36 * z1) h1.2.2.2.2.1 (by have := h1.1; omega) pfl_X5_18 (show 46 + 36 * z1 < 190 by have := h1.1; omega) (h1.2.1.trans rfl) (by rw [h1.2.2.1]; decide) (fm_dec dtX5_copyFrom 19 rfl) ?_
        refine pv_iloadn (pc := 39) (n := 2) 2 rfl rfl (fm_dec dtX5_copyFrom 20 rfl) ?_
        refine pv_aald (k := (49 + 36 * z1)) (n := 16) (r := (50 + 36 * z1 + n)) (pc := 40) (show 49 + 36 * z1 < 190 by have := h1.1; omega) (Or.inr (Or.inl h1.2.2.2.2.2.1)) h1.2.2.2.2.2.2.1 (ix_in hn9 hn) (by rw [i32_cl hn9]; exact h1.2.2.2.2.2.2.2 n hn) (by have := h1.1; omega) (fm_dec dtX5_copyFrom 21 rfl) ?_
        refine pv_aloadn (pc := 41) (n := 1) 1 rfl rfl (fm_dec dtX5_copyFrom 22 rfl) ?_
        refine pv_getR (k := (46 + 36 * z2)) (j := 1) (ci := 5) (pc := 42) (49 + 36 * z2) h2.2.2.2.2.1 (by have := h2.1; omega) pfl_X5_18 (show 46 + 36 * z2 < 190 by have := h2.1; omega) (h2.2.1.trans rfl) (by rw [h2.2.2.1]; decide) (fm_dec dtX5_copyFrom 23 rfl) ?_
        refine pv_iloadn (pc := 45) (n := 2) 2 rfl rfl (fm_dec dtX5_copyFrom 24 rfl) ?_
        refine pv_aald (k := (49 + 36 * z2)) (n := 16) (r := (50 + 36 * z2 + n)) (pc := 46) (show 49 + 36 * z2 < 190 by have := h2.1; omega) (Or.inr (Or.inl h2.2.2.2.2.2.1)) h2.2.2.2.2.2.2.1 (ix_in hn9 hn) (by rw [i32_cl hn9]; exact h2.2.2.2.2.2.2.2 n hn) (by have := h2.1; omega) (fm_dec dtX5_copyFrom 25 rfl) ?_
        refine pv_invV1 (k := (50 + 36 * z1 + n)) (d' := 0) (pc := 47) pcv_X5_26 (show 50 + 36 * z1 + n < 190 by have := h1.1; omega) ((so_bef h1.1 hn).2.1.trans rfl) (Nat.le_of_ble_eq_true rfl) (by decide) (fm_dec dtX5_copyFrom 26 rfl) ?_
        refine cp_S (so_bef h1.1 hn) (so_bef h2.1 hn) ⟨by omega, by omega, by omega, by omega, by omega⟩ (fun M47 c47 => ?_) 
        refine pv_then0 ?_
        refine pv_iincc (pc := 50) 2 1 (by decide) rfl (by decide) rfl (fm_dec dtX5_copyFrom 27 rfl) ?_
        dsimp only [List.set_cons_zero, List.set_cons_succ]
        refine pv_goto (pc := 53) 21 (by decide) (fm_dec dtX5_copyFrom 28 rfl) ?_
        rw [nI_succ1]
        exact ih (16 - (n + 1)) (by omega) (n + 1) M47 (by omega) rfl (hK.next hz hn c47)
theorem shC.all {z1 z2 n : Nat} {M M' : fmM} (h : shC z1 z2 n M M') (hn : (M'.1 (46 + 36 * z1) 2).toInt ≤ (n : Int) ∨ 16 ≤ n) : ∀ w : Nat, (w : Int) < (M.1 (46 + 36 * z2) 2).toInt → w < 16 → smS (50 + 36 * z1 + w) (66 + 36 * z1 + w) (50 + 36 * z2 + w) (66 + 36 * z2 + w) M M' := fun w hw h16 => h.2.2.1 w (by have e := congrArg Int32.toInt h.2.1; omega) h16
set_option maxRecDepth 20000 in
theorem c_shc {M : fmM} {Q : fmR → fmM → Prop} {z1 z2 : Nat} (h1 : shO z1) (h2 : shO z2) (hz : z1 ≠ z2) (hq : ∀ (M' : fmM) (n : Nat), shC z1 z2 n M M' → (M'.1 (46 + 36 * z1) 2).toInt ≤ (n : Int) ∨ 16 ≤ n → Q (.inl none) M') : pvGood Tx 1 qX5_copyFrom [.ref (46 + 36 * z1), .ref (46 + 36 * z2)] M Q := by
  refine pvGood_of (Nat.le_of_ble_eq_true rfl) ?_
  show pvEv Tx 1 qX5_copyFrom 0 [some (.ref (46 + 36 * z1)), some (.ref (46 + 36 * z2)), none] [] M Q
  refine pv_aloadn (pc := 0) (n := 0) 0 rfl rfl (fm_dec dtX5_copyFrom 0 rfl) ?_
  refine pv_getR (k := (46 + 36 * z1)) (j := 0) (ci := 5) (pc := 1) (47 + 36 * z1) h1.2.2.2.1 (by have := h1.1; omega) pfl_X5_12 (show 46 + 36 * z1 < 190 by have := h1.1; omega) (h1.2.1.trans rfl) (by rw [h1.2.2.1]; decide) (fm_dec dtX5_copyFrom 1 rfl) ?_
  refine pv_aloadn (pc := 4) (n := 1) 1 rfl rfl (fm_dec dtX5_copyFrom 2 rfl) ?_
  refine pv_getR (k := (46 + 36 * z2)) (j := 0) (ci := 5) (pc := 5) (47 + 36 * z2) h2.2.2.2.1 (by have := h2.1; omega) pfl_X5_12 (show 46 + 36 * z2 < 190 by have := h2.1; omega) (h2.2.1.trans rfl) (by rw [h2.2.2.1]; decide) (fm_dec dtX5_copyFrom 3 rfl) ?_
  refine pv_invV1 (k := (47 + 36 * z1)) (d' := 0) (pc := 8) pcv_X5_26 (show 47 + 36 * z1 < 190 by have := h1.1; omega) ((so_now h1.1).2.1.trans rfl) (Nat.le_of_ble_eq_true rfl) (by decide) (fm_dec dtX5_copyFrom 4 rfl) ?_
  refine cp_S (so_now h1.1) (so_now h2.1) ⟨by omega, by omega, by omega, by omega, by omega⟩ (fun M8 c8 => ?_) 
  refine pv_then0 ?_
  refine pv_aloadn (pc := 11) (n := 0) 0 rfl rfl (fm_dec dtX5_copyFrom 5 rfl) ?_
  refine pv_aloadn (pc := 12) (n := 1) 1 rfl rfl (fm_dec dtX5_copyFrom 6 rfl) ?_
  refine pv_getI (k := (46 + 36 * z2)) (j := 2) (ci := 5) (pc := 13) pfl_X5_22 (show 46 + 36 * z2 < 190 by have := h2.1; omega) (h2.2.1.trans rfl) (by rw [h2.2.2.1]; decide) (fm_dec dtX5_copyFrom 7 rfl) ?_
  refine pv_putI (k := (46 + 36 * z1)) (j := 2) (ci := 5) (pc := 16) pfl_X5_22 (show 46 + 36 * z1 < 190 by have := h1.1; omega) (h1.2.1.trans rfl) (by rw [h1.2.2.1]; decide) (fm_dec dtX5_copyFrom 8 rfl) ?_
  refine pv_iconst (pc := 19) (v := 0) (by decide) (fm_dec dtX5_copyFrom 9 rfl) ?_
  refine pv_istoren (pc := 20) (n := 2) 2 rfl (by decide) rfl (fm_dec dtX5_copyFrom 10 rfl) ?_
  dsimp only [List.set_cons_zero, List.set_cons_succ]
  exact shc_loop h1 h2 hz hq 16 0 _ (by decide) rfl ⟨c8.1.fr (fun j => by rw [fmI_k _ _ (by omega)]) (fun j => by rw [fmI_k _ _ (by omega)]) rfl, by rw [fmI_s]; exact c8.2.1 _ _ (by omega) (by omega), fun w hw => absurd hw (Nat.not_lt_zero _), fun k hk j => ⟨by rw [fmI_k _ _ (by omega)]; exact c8.2.1 k j (by omega) (by omega), c8.2.2 k j (by omega)⟩⟩
set_option maxRecDepth 20000 in
theorem c_keepS {M : fmM} {Q : fmR → fmM → Prop} {w : Nat} (hw : (M.1 46 2).toInt = (w : Int)) (h16 : w < 16) (hq : ∀ M' : fmM, cpR (50 + w) (66 + w) 47 48 M M' → Q (.inl none) (fmI M' 46 2 (M.1 46 2 + 1))) : pvGood Tx 1 qX5_keep [.ref 46] M Q := by
  refine pvGood_of (Nat.le_of_ble_eq_true rfl) ?_
  show pvEv Tx 1 qX5_keep 0 [some (.ref 46)] [] M Q
  refine pv_aloadn (pc := 0) (n := 0) 0 rfl rfl (fm_dec dtX5_keep 0 rfl) ?_
  refine pv_getI (k := 46) (j := 2) (ci := 5) (pc := 1) pfl_X5_22 (by decide) rfl (by decide) (fm_dec dtX5_keep 1 rfl) ?_
  refine pv_if_lt (pc := 4) 42 (by decide) (fm_dec dtX5_keep 2 rfl) (fun hc4 => by exfalso; rw [sc_lt] at hc4; have z0 : (0 : Int32).toInt = 0 := (by decide); omega) (fun _ => ?_)
  refine pv_aloadn (pc := 7) (n := 0) 0 rfl rfl (fm_dec dtX5_keep 3 rfl) ?_
  refine pv_getI (k := 46) (j := 2) (ci := 5) (pc := 8) pfl_X5_22 (by decide) rfl (by decide) (fm_dec dtX5_keep 4 rfl) ?_
  refine pv_bipush (pc := 11) (v := 16) (by decide) (fm_dec dtX5_keep 5 rfl) ?_
  refine pv_icmp_ge (pc := 13) 42 (by decide) (fm_dec dtX5_keep 6 rfl) (fun hc13 => by exfalso; rw [sc_le] at hc13; have z16 : (16 : Int32).toInt = 16 := (by decide); omega) (fun _ => ?_)
  refine pv_aloadn (pc := 16) (n := 0) 0 rfl rfl (fm_dec dtX5_keep 7 rfl) ?_
  refine pv_getR (k := 46) (j := 1) (ci := 5) (pc := 17) 49 rfl (by decide) pfl_X5_18 (by decide) rfl (by decide) (fm_dec dtX5_keep 8 rfl) ?_
  refine pv_aloadn (pc := 20) (n := 0) 0 rfl rfl (fm_dec dtX5_keep 9 rfl) ?_
  refine pv_getI (k := 46) (j := 2) (ci := 5) (pc := 21) pfl_X5_22 (by decide) rfl (by decide) (fm_dec dtX5_keep 10 rfl) ?_
  refine pv_aald (k := 49) (n := 16) (r := (50 + w)) (pc := 24) (by decide) (Or.inr (Or.inl rfl)) rfl (ix_in hw h16) (by rw [i32_cl hw]; exact (ho_all 0 (by decide)).2.2.2.2.2.2.2 w (by omega)) (by omega) (fm_dec dtX5_keep 11 rfl) ?_
  refine pv_aloadn (pc := 25) (n := 0) 0 rfl rfl (fm_dec dtX5_keep 12 rfl) ?_
  refine pv_getR (k := 46) (j := 0) (ci := 5) (pc := 26) 47 rfl (by decide) pfl_X5_12 (by decide) rfl (by decide) (fm_dec dtX5_keep 13 rfl) ?_
  refine pv_invV1 (k := (50 + w)) (d' := 0) (pc := 29) pcv_X5_26 (show 50 + w < 190 by omega) ((so_bef (z := 0) (by decide) (show w < 16 by omega)).2.1.trans rfl) (Nat.le_of_ble_eq_true rfl) (by decide) (fm_dec dtX5_keep 14 rfl) ?_
  refine cp_S (so_bef (z := 0) (by decide) h16) (so_now (z := 0) (by decide)) ⟨by omega, by omega, by omega, by omega, by omega⟩ (fun M29 c29 => ?_) 
  refine pv_then0 ?_
  refine pv_aloadn (pc := 32) (n := 0) 0 rfl rfl (fm_dec dtX5_keep 15 rfl) ?_
  refine pv_dup (pc := 33) rfl (fm_dec dtX5_keep 16 rfl) ?_
  refine pv_getI (k := 46) (j := 2) (ci := 5) (pc := 34) pfl_X5_22 (by decide) rfl (by decide) (fm_dec dtX5_keep 17 rfl) ?_
  refine pv_iconst (pc := 37) (v := 1) (by decide) (fm_dec dtX5_keep 18 rfl) ?_
  refine pv_iadd (pc := 38) (fm_dec dtX5_keep 19 rfl) ?_
  refine pv_putI (k := 46) (j := 2) (ci := 5) (pc := 39) pfl_X5_22 (by decide) rfl (by decide) (fm_dec dtX5_keep 20 rfl) ?_
  exact pv_return (pc := 42) rfl (fm_dec dtX5_keep 21 rfl) (by have h9 := hq M29 c29; rw [← c29.2.1 46 2 (by omega) (by omega)] at h9; exact h9)
set_option maxRecDepth 20000 in
theorem c_gbS {M : fmM} {Q : fmR → fmM → Prop} {w : Nat} (hw : (M.1 46 2).toInt = (w : Int)) (h0 : 0 < w) (h16 : w ≤ 16) (hq : ∀ M' : fmM, cpR 47 48 (50 + (w - 1)) (66 + (w - 1)) (fmI M 46 2 (M.1 46 2 - 1)) M' → Q (.inl none) M') : pvGood Tx 1 qX5_goBack [.ref 46] M Q := by
  refine pvGood_of (Nat.le_of_ble_eq_true rfl) ?_
  show pvEv Tx 1 qX5_goBack 0 [some (.ref 46)] [] M Q
  have e1 : (M.1 46 2 - 1).toInt = ((w - 1 : Nat) : Int) := (by have z1 : (1 : Int32).toInt = 1 := (by decide); rw [sc_sub (by omega) (by omega)]; omega)
  refine pv_aloadn (pc := 0) (n := 0) 0 rfl rfl (fm_dec dtX5_goBack 0 rfl) ?_
  refine pv_getI (k := 46) (j := 2) (ci := 5) (pc := 1) pfl_X5_22 (by decide) rfl (by decide) (fm_dec dtX5_goBack 1 rfl) ?_
  refine pv_if_le (pc := 4) 42 (by decide) (fm_dec dtX5_goBack 2 rfl) (fun hc4 => by exfalso; rw [sc_le] at hc4; have z0 : (0 : Int32).toInt = 0 := (by decide); omega) (fun _ => ?_)
  refine pv_aloadn (pc := 7) (n := 0) 0 rfl rfl (fm_dec dtX5_goBack 3 rfl) ?_
  refine pv_getI (k := 46) (j := 2) (ci := 5) (pc := 8) pfl_X5_22 (by decide) rfl (by decide) (fm_dec dtX5_goBack 4 rfl) ?_
  refine pv_bipush (pc := 11) (v := 16) (by decide) (fm_dec dtX5_goBack 5 rfl) ?_
  refine pv_icmp_gt (pc := 13) 42 (by decide) (fm_dec dtX5_goBack 6 rfl) (fun hc13 => by exfalso; rw [sc_lt] at hc13; have z16 : (16 : Int32).toInt = 16 := (by decide); omega) (fun _ => ?_)
  refine pv_aloadn (pc := 16) (n := 0) 0 rfl rfl (fm_dec dtX5_goBack 7 rfl) ?_
  refine pv_dup (pc := 17) rfl (fm_dec dtX5_goBack 8 rfl) ?_
  refine pv_getI (k := 46) (j := 2) (ci := 5) (pc := 18) pfl_X5_22 (by decide) rfl (by decide) (fm_dec dtX5_goBack 9 rfl) ?_
  refine pv_iconst (pc := 21) (v := 1) (by decide) (fm_dec dtX5_goBack 10 rfl) ?_
  refine pv_isub (pc := 22) (fm_dec dtX5_goBack 11 rfl) ?_
  refine pv_putI (k := 46) (j := 2) (ci := 5) (pc := 23) pfl_X5_22 (by decide) rfl (by decide) (fm_dec dtX5_goBack 12 rfl) ?_
  refine pv_aloadn (pc := 26) (n := 0) 0 rfl rfl (fm_dec dtX5_goBack 13 rfl) ?_
  refine pv_getR (k := 46) (j := 0) (ci := 5) (pc := 27) 47 rfl (by decide) pfl_X5_12 (by decide) rfl (by decide) (fm_dec dtX5_goBack 14 rfl) ?_
  refine pv_aloadn (pc := 30) (n := 0) 0 rfl rfl (fm_dec dtX5_goBack 15 rfl) ?_
  refine pv_getR (k := 46) (j := 1) (ci := 5) (pc := 31) 49 rfl (by decide) pfl_X5_18 (by decide) rfl (by decide) (fm_dec dtX5_goBack 16 rfl) ?_
  refine pv_aloadn (pc := 34) (n := 0) 0 rfl rfl (fm_dec dtX5_goBack 17 rfl) ?_
  refine pv_getI (k := 46) (j := 2) (ci := 5) (pc := 35) pfl_X5_22 (by decide) rfl (by decide) (fm_dec dtX5_goBack 18 rfl) ?_
  refine pv_aald (k := 49) (n := 16) (r := (50 + (w - 1))) (pc := 38) (by decide) (Or.inr (Or.inl rfl)) rfl (ix_in e1 (by omega)) (by rw [fmI_s, i32_cl e1]; exact (ho_all 0 (by decide)).2.2.2.2.2.2.2 (w - 1) (by omega)) (by omega) (fm_dec dtX5_goBack 19 rfl) ?_
  refine pv_invV1 (k := 47) (d' := 0) (pc := 39) pcv_X5_26 (by decide) rfl (Nat.le_of_ble_eq_true rfl) (by decide) (fm_dec dtX5_goBack 20 rfl) ?_
  refine cp_S (so_now (z := 0) (by decide)) (so_bef (z := 0) (by decide) (show w - 1 < 16 by omega)) ⟨by omega, by omega, by omega, by omega, by omega⟩ (fun M39 c39 => ?_) 
  refine pv_then0 ?_
  exact pv_return (pc := 42) rfl (fm_dec dtX5_goBack 21 rfl) (hq M39 c39)
/-- a shelf, all of it, as another was -/
def shA (z1 z2 : Nat) (M M' : fmM) : Prop := smS (47 + 36 * z1) (48 + 36 * z1) (47 + 36 * z2) (48 + 36 * z2) M M' ∧ M'.1 (46 + 36 * z1) 2 = M.1 (46 + 36 * z2) 2 ∧ (∀ w : Nat, (w : Int) < (M.1 (46 + 36 * z2) 2).toInt → w < 16 → smS (50 + 36 * z1 + w) (66 + 36 * z1 + w) (50 + 36 * z2 + w) (66 + 36 * z2 + w) M M') ∧ ∀ k, ¬ (46 + 36 * z1 ≤ k ∧ k < 82 + 36 * z1) → ∀ j, M'.1 k j = M.1 k j ∧ M'.2 k j = M.2 k j
theorem c_shA {M : fmM} {Q : fmR → fmM → Prop} {z1 z2 : Nat} (h1 : z1 < 4) (h2 : z2 < 4) (hz : z1 ≠ z2) (hq : ∀ M' : fmM, shA z1 z2 M M' → Q (.inl none) M') : pvGood Tx 1 qX5_copyFrom [.ref (46 + 36 * z1), .ref (46 + 36 * z2)] M Q := c_shc (ho_all z1 h1) (ho_all z2 h2) hz (fun M' n h hn => hq M' ⟨h.1, h.2.1, h.all hn, h.2.2.2⟩)
set_option maxRecDepth 20000 in
theorem c_ximS {M : fmM} {Q : fmR → fmM → Prop} {i : Nat} (hi : (M.1 0 13).toInt = (i : Int)) (h4 : i ≤ 3) (hn : i = 3 → Q (.inl (some (.int (-1)))) M) (hq : i < 3 → ∀ (M1 : fmM), shA (1 + i) 0 M M1 → Q (.inl (some (.int (M.1 0 13 + 1)))) (fmI M1 0 13 (M.1 0 13 + 1))) : pvGood Tx 2 qX10_image [.ref 0] M Q := by
  refine pvGood_of (Nat.le_of_ble_eq_true rfl) ?_
  show pvEv Tx 2 qX10_image 0 [some (.ref 0)] [] M Q
  refine pv_aloadn (pc := 0) (n := 0) 0 rfl rfl (fm_dec dtX10_image 0 rfl) ?_
  refine pv_getI (k := 0) (j := 13) (ci := 10) (pc := 1) pfl_X10_129 (by decide) rfl (by decide) (fm_dec dtX10_image 1 rfl) ?_
  refine pv_iconst (pc := 4) (v := 3) (by decide) (fm_dec dtX10_image 2 rfl) ?_
  refine pv_icmp_lt (pc := 5) 10 (by decide) (fm_dec dtX10_image 3 rfl) (fun hc5 => ?_) (fun hc5 => ?_)
  · have z3 : (3 : Int32).toInt = 3 := (by decide)
    have h3 : i < 3 := (by rw [sc_lt] at hc5; omega)
    refine pv_aloadn (pc := 10) (n := 0) 0 rfl rfl (fm_dec dtX10_image 6 rfl) ?_
    refine pv_getR (k := 0) (j := 10) (ci := 10) (pc := 11) 43 rfl (by decide) pfl_X10_79 (by decide) rfl (by decide) (fm_dec dtX10_image 7 rfl) ?_
    refine pv_aloadn (pc := 14) (n := 0) 0 rfl rfl (fm_dec dtX10_image 8 rfl) ?_
    refine pv_getI (k := 0) (j := 13) (ci := 10) (pc := 15) pfl_X10_129 (by decide) rfl (by decide) (fm_dec dtX10_image 9 rfl) ?_
    refine pv_aald (k := 43) (n := 3) (r := (46 + 36 * (1 + i))) (pc := 18) (by decide) (Or.inl rfl) rfl (ix_in hi h3) (by have h9 := xi_at hi h3; rw [show 46 + 36 * (1 + i) = 82 + 36 * i by omega]; exact h9) (by omega) (fm_dec dtX10_image 10 rfl) ?_
    refine pv_aloadn (pc := 19) (n := 0) 0 rfl rfl (fm_dec dtX10_image 11 rfl) ?_
    refine pv_getR (k := 0) (j := 9) (ci := 10) (pc := 20) 46 rfl (by decide) pfl_X10_75 (by decide) rfl (by decide) (fm_dec dtX10_image 12 rfl) ?_
    refine pv_invV1 (k := (46 + 36 * (1 + i))) (d' := 1) (pc := 23) pcv_X10_360 (show 46 + 36 * (1 + i) < 190 by omega) ((ho_all (1 + i) (by omega)).2.1.trans rfl) (Nat.le_of_ble_eq_true rfl) (by decide) (fm_dec dtX10_image 13 rfl) ?_
    refine c_shA (z1 := 1 + i) (z2 := 0) (by omega) (by decide) (by omega) (fun M23 k23 => ?_) 
    refine pv_then0 ?_
    refine pv_aloadn (pc := 26) (n := 0) 0 rfl rfl (fm_dec dtX10_image 14 rfl) ?_
    refine pv_dup (pc := 27) rfl (fm_dec dtX10_image 15 rfl) ?_
    refine pv_getI (k := 0) (j := 13) (ci := 10) (pc := 28) pfl_X10_129 (by decide) rfl (by decide) (fm_dec dtX10_image 16 rfl) ?_
    refine pv_iconst (pc := 31) (v := 1) (by decide) (fm_dec dtX10_image 17 rfl) ?_
    refine pv_iadd (pc := 32) (fm_dec dtX10_image 18 rfl) ?_
    refine pv_putI (k := 0) (j := 13) (ci := 10) (pc := 33) pfl_X10_129 (by decide) rfl (by decide) (fm_dec dtX10_image 19 rfl) ?_
    refine pv_aloadn (pc := 36) (n := 0) 0 rfl rfl (fm_dec dtX10_image 20 rfl) ?_
    refine pv_getI (k := 0) (j := 13) (ci := 10) (pc := 37) pfl_X10_129 (by decide) rfl (by decide) (fm_dec dtX10_image 21 rfl) ?_
    exact pv_ireturn (pc := 40) rfl (fm_dec dtX10_image 22 rfl) (by have h9 := hq h3 M23 k23; have e9 : M23.1 0 13 = M.1 0 13 := (k23.2.2.2 0 (by omega) 13).1; rw [e9, fmI_s]; exact h9)
  · refine pv_iconst (pc := 8) (v := (-1)) (by decide) (fm_dec dtX10_image 4 rfl) ?_
    exact pv_ireturn (pc := 9) rfl (fm_dec dtX10_image 5 rfl) (hn (by have z3 : (3 : Int32).toInt = 3 := (by decide); rw [sc_lt] at hc5; omega))
set_option maxRecDepth 20000 in
theorem c_fgt {M : fmM} {Q : fmR → fmM → Prop}  (hq : Q (.inl none) (fmI M 34 5 0)) : pvGood Tx 0 qX3_forget [.ref 34] M Q := by
  refine pvGood_of (Nat.le_of_ble_eq_true rfl) ?_
  show pvEv Tx 0 qX3_forget 0 [some (.ref 34)] [] M Q
  refine pv_aloadn (pc := 0) (n := 0) 0 rfl rfl (fm_dec dtX3_forget 0 rfl) ?_
  refine pv_iconst (pc := 1) (v := 0) (by decide) (fm_dec dtX3_forget 1 rfl) ?_
  refine pv_putI (k := 34) (j := 5) (ci := 3) (pc := 2) pfl_X3_29 (by decide) rfl (by decide) (fm_dec dtX3_forget 2 rfl) ?_
  exact pv_return (pc := 5) rfl (fm_dec dtX3_forget 3 rfl) hq
theorem fmI_s' {M : fmM} {k j : Nat} {x : Int32} : (fmI M k j x).1 k j = x := fmI_s M k j x
set_option maxRecDepth 20000 in
theorem c_xreS {M : fmM} {Q : fmR → fmM → Prop} {i : Nat} (hi : (M.1 0 13).toInt = (i : Int)) (h4 : i ≤ 3) (hn : i = 0 → Q (.inl (some (.int (-1)))) M) (hq : 0 < i → ∀ M1 : fmM, shA 0 (1 + (i - 1)) (fmI M 0 13 (M.1 0 13 - 1)) M1 → Q (.inl (some (.int (M.1 0 13 - 1)))) (fmI (fmI M1 0 14 0) 34 5 0)) : pvGood Tx 2 qX10_restore [.ref 0] M Q := by
  refine pvGood_of (Nat.le_of_ble_eq_true rfl) ?_
  show pvEv Tx 2 qX10_restore 0 [some (.ref 0)] [] M Q
  refine pv_aloadn (pc := 0) (n := 0) 0 rfl rfl (fm_dec dtX10_restore 0 rfl) ?_
  refine pv_getI (k := 0) (j := 13) (ci := 10) (pc := 1) pfl_X10_129 (by decide) rfl (by decide) (fm_dec dtX10_restore 1 rfl) ?_
  refine pv_if_gt (pc := 4) 9 (by decide) (fm_dec dtX10_restore 2 rfl) (fun hc4 => ?_) (fun hc4 => ?_)
  · have z0 : (0 : Int32).toInt = 0 := (by decide)
    have h0 : 0 < i := (by rw [sc_lt] at hc4; omega)
    have e1 : (M.1 0 13 - 1).toInt = ((i - 1 : Nat) : Int) := (by have z1 : (1 : Int32).toInt = 1 := (by decide); rw [sc_sub (by omega) (by omega)]; omega)
    refine pv_aloadn (pc := 9) (n := 0) 0 rfl rfl (fm_dec dtX10_restore 5 rfl) ?_
    refine pv_dup (pc := 10) rfl (fm_dec dtX10_restore 6 rfl) ?_
    refine pv_getI (k := 0) (j := 13) (ci := 10) (pc := 11) pfl_X10_129 (by decide) rfl (by decide) (fm_dec dtX10_restore 7 rfl) ?_
    refine pv_iconst (pc := 14) (v := 1) (by decide) (fm_dec dtX10_restore 8 rfl) ?_
    refine pv_isub (pc := 15) (fm_dec dtX10_restore 9 rfl) ?_
    refine pv_putI (k := 0) (j := 13) (ci := 10) (pc := 16) pfl_X10_129 (by decide) rfl (by decide) (fm_dec dtX10_restore 10 rfl) ?_
    refine pv_aloadn (pc := 19) (n := 0) 0 rfl rfl (fm_dec dtX10_restore 11 rfl) ?_
    refine pv_getR (k := 0) (j := 9) (ci := 10) (pc := 20) 46 rfl (by decide) pfl_X10_75 (by decide) rfl (by decide) (fm_dec dtX10_restore 12 rfl) ?_
    refine pv_aloadn (pc := 23) (n := 0) 0 rfl rfl (fm_dec dtX10_restore 13 rfl) ?_
    refine pv_getR (k := 0) (j := 10) (ci := 10) (pc := 24) 43 rfl (by decide) pfl_X10_79 (by decide) rfl (by decide) (fm_dec dtX10_restore 14 rfl) ?_
    refine pv_aloadn (pc := 27) (n := 0) 0 rfl rfl (fm_dec dtX10_restore 15 rfl) ?_
    refine pv_getI (k := 0) (j := 13) (ci := 10) (pc := 28) pfl_X10_129 (by decide) rfl (by decide) (fm_dec dtX10_restore 16 rfl) ?_
    refine pv_aald (k := 43) (n := 3) (r := (46 + 36 * (1 + (i - 1)))) (pc := 31) (by decide) (Or.inl rfl) rfl (ix_in e1 (by omega)) (by have h9 := xi_at e1 (by omega); rw [show 46 + 36 * (1 + (i - 1)) = 82 + 36 * (i - 1) by omega]; exact h9) (by omega) (fm_dec dtX10_restore 17 rfl) ?_
    refine pv_invV1 (k := 46) (d' := 1) (pc := 32) pcv_X10_360 (by decide) rfl (Nat.le_of_ble_eq_true rfl) (by decide) (fm_dec dtX10_restore 18 rfl) ?_
    refine c_shA (z1 := 0) (z2 := 1 + (i - 1)) (by decide) (by omega) (by omega) (fun M32 k32 => ?_) 
    refine pv_then0 ?_
    refine pv_aloadn (pc := 35) (n := 0) 0 rfl rfl (fm_dec dtX10_restore 19 rfl) ?_
    refine pv_iconst (pc := 36) (v := 0) (by decide) (fm_dec dtX10_restore 20 rfl) ?_
    refine pv_putI (k := 0) (j := 14) (ci := 10) (pc := 37) pfl_X10_132 (by decide) rfl (by decide) (fm_dec dtX10_restore 21 rfl) ?_
    refine pv_aloadn (pc := 40) (n := 0) 0 rfl rfl (fm_dec dtX10_restore 22 rfl) ?_
    refine pv_getR (k := 0) (j := 7) (ci := 10) (pc := 41) 34 rfl (by decide) pfl_X10_61 (by decide) rfl (by decide) (fm_dec dtX10_restore 23 rfl) ?_
    refine pv_invV0 (k := 34) (d' := 0) (pc := 44) pcv_X10_135 (by decide) rfl (Nat.le_of_ble_eq_true rfl) (by decide) (fm_dec dtX10_restore 24 rfl) ?_
    refine c_fgt ?_
    refine pv_then0 ?_
    refine pv_aloadn (pc := 47) (n := 0) 0 rfl rfl (fm_dec dtX10_restore 25 rfl) ?_
    refine pv_getI (k := 0) (j := 13) (ci := 10) (pc := 48) pfl_X10_129 (by decide) rfl (by decide) (fm_dec dtX10_restore 26 rfl) ?_
    exact pv_ireturn (pc := 51) rfl (fm_dec dtX10_restore 27 rfl) (by have h9 := hq h0 M32 k32; have e9 : M32.1 0 13 = M.1 0 13 - 1 := ((k32.2.2.2 0 (by omega) 13).1).trans fmI_s'; rw [← e9] at h9; exact h9)
  · refine pv_iconst (pc := 7) (v := (-1)) (by decide) (fm_dec dtX10_restore 3 rfl) ?_
    exact pv_ireturn (pc := 8) rfl (fm_dec dtX10_restore 4 rfl) (hn (by have z0 : (0 : Int32).toInt = 0 := (by decide); rw [sc_lt] at hc4; omega))
set_option maxRecDepth 20000 in
theorem c_xunS {M : fmM} {Q : fmR → fmM → Prop} {w : Nat} (hw : (M.1 46 2).toInt = (w : Int)) (h16 : w ≤ 16) (hn : w = 0 → Q (.inl (some (.int (-1)))) M) (hq : 0 < w → ∀ M1 : fmM, cpR 47 48 (50 + (w - 1)) (66 + (w - 1)) (fmI M 46 2 (M.1 46 2 - 1)) M1 → Q (.inl (some (.int (M.1 46 2 - 1)))) (fmI (fmI M1 0 14 0) 34 5 0)) : pvGood Tx 2 qX10_undo [.ref 0] M Q := by
  refine pvGood_of (Nat.le_of_ble_eq_true rfl) ?_
  show pvEv Tx 2 qX10_undo 0 [some (.ref 0)] [] M Q
  refine pv_aloadn (pc := 0) (n := 0) 0 rfl rfl (fm_dec dtX10_undo 0 rfl) ?_
  refine pv_getR (k := 0) (j := 9) (ci := 10) (pc := 1) 46 rfl (by decide) pfl_X10_75 (by decide) rfl (by decide) (fm_dec dtX10_undo 1 rfl) ?_
  refine pv_getI (k := 46) (j := 2) (ci := 5) (pc := 4) pfl_X10_126 (by decide) rfl (by decide) (fm_dec dtX10_undo 2 rfl) ?_
  refine pv_if_gt (pc := 7) 12 (by decide) (fm_dec dtX10_undo 3 rfl) (fun hc7 => ?_) (fun hc7 => ?_)
  · have z0 : (0 : Int32).toInt = 0 := (by decide)
    have h0 : 0 < w := (by rw [sc_lt] at hc7; omega)
    refine pv_aloadn (pc := 12) (n := 0) 0 rfl rfl (fm_dec dtX10_undo 6 rfl) ?_
    refine pv_getR (k := 0) (j := 9) (ci := 10) (pc := 13) 46 rfl (by decide) pfl_X10_75 (by decide) rfl (by decide) (fm_dec dtX10_undo 7 rfl) ?_
    refine pv_invV0 (k := 46) (d' := 1) (pc := 16) pcv_X10_166 (by decide) rfl (Nat.le_of_ble_eq_true rfl) (by decide) (fm_dec dtX10_undo 8 rfl) ?_
    refine c_gbS hw h0 h16 (fun M16 k16 => ?_) 
    refine pv_then0 ?_
    refine pv_aloadn (pc := 19) (n := 0) 0 rfl rfl (fm_dec dtX10_undo 9 rfl) ?_
    refine pv_iconst (pc := 20) (v := 0) (by decide) (fm_dec dtX10_undo 10 rfl) ?_
    refine pv_putI (k := 0) (j := 14) (ci := 10) (pc := 21) pfl_X10_132 (by decide) rfl (by decide) (fm_dec dtX10_undo 11 rfl) ?_
    refine pv_aloadn (pc := 24) (n := 0) 0 rfl rfl (fm_dec dtX10_undo 12 rfl) ?_
    refine pv_getR (k := 0) (j := 7) (ci := 10) (pc := 25) 34 rfl (by decide) pfl_X10_61 (by decide) rfl (by decide) (fm_dec dtX10_undo 13 rfl) ?_
    refine pv_invV0 (k := 34) (d' := 0) (pc := 28) pcv_X10_135 (by decide) rfl (Nat.le_of_ble_eq_true rfl) (by decide) (fm_dec dtX10_undo 14 rfl) ?_
    refine c_fgt ?_
    refine pv_then0 ?_
    refine pv_aloadn (pc := 31) (n := 0) 0 rfl rfl (fm_dec dtX10_undo 15 rfl) ?_
    refine pv_getR (k := 0) (j := 9) (ci := 10) (pc := 32) 46 rfl (by decide) pfl_X10_75 (by decide) rfl (by decide) (fm_dec dtX10_undo 16 rfl) ?_
    refine pv_getI (k := 46) (j := 2) (ci := 5) (pc := 35) pfl_X10_126 (by decide) rfl (by decide) (fm_dec dtX10_undo 17 rfl) ?_
    exact pv_ireturn (pc := 38) rfl (fm_dec dtX10_undo 18 rfl) (by have h9 := hq h0 M16 k16; have e9 : M16.1 46 2 = M.1 46 2 - 1 := (k16.2.1 46 2 (by decide) (by decide)).trans fmI_s'; rw [← e9] at h9; exact h9)
  · refine pv_iconst (pc := 10) (v := (-1)) (by decide) (fm_dec dtX10_undo 4 rfl) ?_
    exact pv_ireturn (pc := 11) rfl (fm_dec dtX10_undo 5 rfl) (hn (by have z0 : (0 : Int32).toInt = 0 := (by decide); rw [sc_lt] at hc7; omega))
-- the reference's side
def cpB (a b n : Nat) (M M' : fmM) : Prop := (∀ j, j < n → M'.1 b j = M.1 a j) ∧ (∀ k j, ¬ (k = b ∧ j < n) → M'.1 k j = M.1 k j) ∧ M'.2 = M.2
abbrev rwC (a : Nat) : Prop := a < 522 ∧ Tm.2.1 a = 0 ∧ Tm.2.2.1 a = 14
theorem cpB.next {a b n : Nat} {M0 M : fmM} (h : cpB a b n M0 M) (hab : a ≠ b) : cpB a b (n + 1) M0 (fmI M b n (M.1 a n)) := by
  obtain ⟨h1, h2, h3⟩ := h
  refine ⟨fun j hj => ?_, fun k j hk => ?_, h3⟩
  · rw [fmI_at]
    by_cases e : j = n
    · subst e
      rw [if_pos ⟨rfl, rfl⟩]
      exact h2 a j (fun h9 => hab h9.1)
    · rw [if_neg (fun h9 => e h9.2)]
      exact h1 j (by omega)
  · rw [fmI_at, if_neg (by omega)]
    exact h2 k j (by omega)
theorem ro_7 : rwC 7 := by decide +kernel
theorem ro_b : ∀ w, w < 16 → rwC (503 + w) := by decide +kernel
theorem sl_d : ∀ t, t < 239 → ((sl t).1 = 0 ∧ (sl t).2 = 32) ∨ (sl t).1 = 7 ∨ (503 ≤ (sl t).1 ∧ (sl t).1 < 519) := by decide +kernel
set_option maxRecDepth 20000 in
theorem mcp_loop {Q : fmR → fmM → Prop} {a b : Nat} {M0 : fmM} (ha : rwC a) (hb : rwC b) (hab : a ≠ b) (hq : ∀ M' : fmM, cpB a b 14 M0 M' → Q (.inl none) M') : ∀ (m : Nat) (n : Nat) (M : fmM), n ≤ 14 → 14 - n = m → cpB a b n M0 M → pvEv Tm 0 qX11_copies 2 [some (.ref a), some (.ref b), some (.int (nI n))] [] M Q := by
  intro m
  induction m using Nat.strongRecOn with
  | _ m ih =>
    intro n M hn14 hm hK
    have hn9 : (nI n).toInt = (n : Int) := nI_toInt (by omega)
    refine pv_iloadn (pc := 2) (n := 2) 2 rfl rfl (fm_dec dtX11_copies 2 rfl) ?_
    refine pv_bipush (pc := 3) (v := 14) (by decide) (fm_dec dtX11_copies 3 rfl) ?_
    refine pv_icmp_ge (pc := 5) 20 (by decide) (fm_dec dtX11_copies 4 rfl) (fun hc5 => ?_) (fun hc5 => ?_)
    · exact pv_return (pc := 20) rfl (fm_dec dtX11_copies 13 rfl) (by have e9 : n = 14 := (by rw [sc_le] at hc5; have z14 : (14 : Int32).toInt = 14 := (by decide); omega); subst e9; exact hq M hK)
    · have hn : n < 14 := (by rw [sc_le] at hc5; have z14 : (14 : Int32).toInt = 14 := (by decide); omega)
      refine pv_aloadn (pc := 8) (n := 1) 1 rfl rfl (fm_dec dtX11_copies 5 rfl) ?_
      refine pv_iloadn (pc := 9) (n := 2) 2 rfl rfl (fm_dec dtX11_copies 6 rfl) ?_
      refine pv_aloadn (pc := 10) (n := 0) 0 rfl rfl (fm_dec dtX11_copies 7 rfl) ?_
      refine pv_iloadn (pc := 11) (n := 2) 2 rfl rfl (fm_dec dtX11_copies 8 rfl) ?_
      refine pv_iald (k := (a)) (n := 14) (pc := 12) ha.1 ha.2.1 ha.2.2 (ix_in hn9 hn) (fm_dec dtX11_copies 9 rfl) ?_
      rw [i32_cl hn9]
      refine pv_iast (k := (b)) (n := 14) (pc := 13) hb.1 hb.2.1 hb.2.2 (ix_in hn9 hn) (fm_dec dtX11_copies 10 rfl) ?_
      rw [i32_cl hn9]
      refine pv_iincc (pc := 14) 2 1 (by decide) rfl (by decide) rfl (fm_dec dtX11_copies 11 rfl) ?_
      dsimp only [List.set_cons_zero, List.set_cons_succ]
      refine pv_goto (pc := 17) 2 (by decide) (fm_dec dtX11_copies 12 rfl) ?_
      rw [nI_succ1]
      exact ih (14 - (n + 1)) (by omega) (n + 1) _ (by omega) rfl (hK.next hab)
set_option maxRecDepth 20000 in
theorem c_mcp {M : fmM} {Q : fmR → fmM → Prop} {a b : Nat} (ha : rwC a) (hb : rwC b) (hab : a ≠ b) (hq : ∀ M' : fmM, cpB a b 14 M M' → Q (.inl none) M') : pvGood Tm 0 qX11_copies [.ref a, .ref b] M Q := by
  refine pvGood_of (Nat.le_of_ble_eq_true rfl) ?_
  show pvEv Tm 0 qX11_copies 0 [some (.ref a), some (.ref b), none] [] M Q
  refine pv_iconst (pc := 0) (v := 0) (by decide) (fm_dec dtX11_copies 0 rfl) ?_
  refine pv_istoren (pc := 1) (n := 2) 2 rfl (by decide) rfl (fm_dec dtX11_copies 1 rfl) ?_
  dsimp only [List.set_cons_zero, List.set_cons_succ]
  exact mcp_loop ha hb hab hq 14 0 M (by decide) rfl ⟨fun j hj => absurd hj (Nat.not_lt_zero _), fun _ _ _ => rfl, rfl⟩
set_option maxRecDepth 20000 in
theorem c_mimS {M : fmM} {Q : fmR → fmM → Prop} {i : Nat} (hi : (M.1 0 34).toInt = (i : Int)) (h4 : i ≤ 3) (hn : i = 3 → Q (.inl (some (.int (-1)))) (fmI M 0 0 0)) (hq : i < 3 → ∀ (M1 : fmM), pa0 (fmI M 0 0 0) i 239 M1 → Q (.inl (some (.int (M.1 0 34 + 1)))) (fmI M1 0 34 (M.1 0 34 + 1))) : pvGood Tm 2 qX11_image [.ref 0] M Q := by
  refine pvGood_of (Nat.le_of_ble_eq_true rfl) ?_
  show pvEv Tm 2 qX11_image 0 [some (.ref 0)] [] M Q
  refine pv_aloadn (pc := 0) (n := 0) 0 rfl rfl (fm_dec dtX11_image 0 rfl) ?_
  refine pv_iconst (pc := 1) (v := 0) (by decide) (fm_dec dtX11_image 1 rfl) ?_
  refine pv_putI (k := 0) (j := 0) (ci := 11) (pc := 2) pfl_X11_101 (by decide) rfl (by decide) (fm_dec dtX11_image 2 rfl) ?_
  refine pv_aloadn (pc := 5) (n := 0) 0 rfl rfl (fm_dec dtX11_image 3 rfl) ?_
  refine pv_getI (k := 0) (j := 34) (ci := 11) (pc := 6) pfl_X11_206 (by decide) rfl (by decide) (fm_dec dtX11_image 4 rfl) ?_
  refine pv_iconst (pc := 9) (v := 3) (by decide) (fm_dec dtX11_image 5 rfl) ?_
  refine pv_icmp_ne (pc := 10) 15 (by decide) (fm_dec dtX11_image 6 rfl) (fun hc10 => ?_) (fun hc10 => ?_)
  · have z3 : (3 : Int32).toInt = 3 := (by decide)
    have h3 : i < 3 := (by have h9 : ¬ i = 3 := (fun h9 => hc10 (i32_ext (by show (M.1 0 34).toInt = _; omega))); omega)
    refine pv_aloadn (pc := 15) (n := 0) 0 rfl rfl (fm_dec dtX11_image 9 rfl) ?_
    refine pv_aloadn (pc := 16) (n := 0) 0 rfl rfl (fm_dec dtX11_image 10 rfl) ?_
    refine pv_getR (k := 0) (j := 30) (ci := 11) (pc := 17) 26 rfl (by decide) pfl_X11_70 (by decide) rfl (by decide) (fm_dec dtX11_image 11 rfl) ?_
    refine pv_aloadn (pc := 20) (n := 0) 0 rfl rfl (fm_dec dtX11_image 12 rfl) ?_
    refine pv_getI (k := 0) (j := 34) (ci := 11) (pc := 21) pfl_X11_206 (by decide) rfl (by decide) (fm_dec dtX11_image 13 rfl) ?_
    refine pv_aald (k := 26) (n := 3) (r := (519 + i)) (pc := 24) (by decide) (Or.inr (Or.inr rfl)) rfl (rw_kept.inb hi h3) (rw_kept.at hi h3) (rw_kept.2.2.2 i h3).2.1 (fm_dec dtX11_image 14 rfl) ?_
    refine pv_iconst (pc := 25) (v := 0) (by decide) (fm_dec dtX11_image 15 rfl) ?_
    refine pv_invV2 (k := 0) (d' := 1) (pc := 26) pcv_X11_443 (by decide) rfl (Nat.le_of_ble_eq_true rfl) (by decide) (fm_dec dtX11_image 16 rfl) ?_
    refine c_putsAll0 h3 (fun M26 p26 => ?_)
    refine pv_then0 ?_
    refine pv_aloadn (pc := 29) (n := 0) 0 rfl rfl (fm_dec dtX11_image 17 rfl) ?_
    refine pv_dup (pc := 30) rfl (fm_dec dtX11_image 18 rfl) ?_
    refine pv_getI (k := 0) (j := 34) (ci := 11) (pc := 31) pfl_X11_206 (by decide) rfl (by decide) (fm_dec dtX11_image 19 rfl) ?_
    refine pv_iconst (pc := 34) (v := 1) (by decide) (fm_dec dtX11_image 20 rfl) ?_
    refine pv_iadd (pc := 35) (fm_dec dtX11_image 21 rfl) ?_
    refine pv_putI (k := 0) (j := 34) (ci := 11) (pc := 36) pfl_X11_206 (by decide) rfl (by decide) (fm_dec dtX11_image 22 rfl) ?_
    refine pv_aloadn (pc := 39) (n := 0) 0 rfl rfl (fm_dec dtX11_image 23 rfl) ?_
    refine pv_getI (k := 0) (j := 34) (ci := 11) (pc := 40) pfl_X11_206 (by decide) rfl (by decide) (fm_dec dtX11_image 24 rfl) ?_
    exact pv_ireturn (pc := 43) rfl (fm_dec dtX11_image 25 rfl) (by have h9 := hq h3 M26 p26; have e9 : M26.1 0 34 = M.1 0 34 := p26.2.1 0 34 (by omega) (by decide); rw [e9, fmI_s]; exact h9)
  · refine pv_iconst (pc := 13) (v := (-1)) (by decide) (fm_dec dtX11_image 7 rfl) ?_
    exact pv_ireturn (pc := 14) rfl (fm_dec dtX11_image 8 rfl) (hn (by have z3 : (3 : Int32).toInt = 3 := (by decide); have h9 : (M.1 0 34).toInt = (3 : Int32).toInt := congrArg Int32.toInt hc10; omega))
set_option maxRecDepth 20000 in
theorem c_mreS {M : fmM} {Q : fmR → fmM → Prop} {i : Nat} (hi : (M.1 0 34).toInt = (i : Int)) (h4 : i ≤ 3) (hn : i = 0 → Q (.inl (some (.int (-1)))) (fmI M 0 0 0)) (hq : 0 < i → ∀ (M1 : fmM), pa1 (fmI (fmI M 0 0 0) 0 34 (M.1 0 34 - 1)) (i - 1) 239 M1 → Q (.inl (some (.int (M.1 0 34 - 1)))) (fmI M1 0 33 0)) : pvGood Tm 2 qX11_restore [.ref 0] M Q := by
  refine pvGood_of (Nat.le_of_ble_eq_true rfl) ?_
  show pvEv Tm 2 qX11_restore 0 [some (.ref 0)] [] M Q
  refine pv_aloadn (pc := 0) (n := 0) 0 rfl rfl (fm_dec dtX11_restore 0 rfl) ?_
  refine pv_iconst (pc := 1) (v := 0) (by decide) (fm_dec dtX11_restore 1 rfl) ?_
  refine pv_putI (k := 0) (j := 0) (ci := 11) (pc := 2) pfl_X11_101 (by decide) rfl (by decide) (fm_dec dtX11_restore 2 rfl) ?_
  refine pv_aloadn (pc := 5) (n := 0) 0 rfl rfl (fm_dec dtX11_restore 3 rfl) ?_
  refine pv_getI (k := 0) (j := 34) (ci := 11) (pc := 6) pfl_X11_206 (by decide) rfl (by decide) (fm_dec dtX11_restore 4 rfl) ?_
  refine pv_if_ne (pc := 9) 14 (by decide) (fm_dec dtX11_restore 5 rfl) (fun hc9 => ?_) (fun hc9 => ?_)
  · have hi0 : ((fmI M 0 0 0).1 0 34).toInt = (i : Int) := hi
    have h0 : 0 < i := (by have h9 : ¬ i = 0 := (fun h9 => hc9 (i32_ext (by show (M.1 0 34).toInt = _; rw [hi, h9]; decide))); omega)
    have e1 : ((fmI M 0 0 0).1 0 34 - 1).toInt = ((i - 1 : Nat) : Int) := (by have z1 : (1 : Int32).toInt = 1 := (by decide); rw [sc_sub (by omega) (by omega)]; omega)
    refine pv_aloadn (pc := 14) (n := 0) 0 rfl rfl (fm_dec dtX11_restore 8 rfl) ?_
    refine pv_dup (pc := 15) rfl (fm_dec dtX11_restore 9 rfl) ?_
    refine pv_getI (k := 0) (j := 34) (ci := 11) (pc := 16) pfl_X11_206 (by decide) rfl (by decide) (fm_dec dtX11_restore 10 rfl) ?_
    refine pv_iconst (pc := 19) (v := 1) (by decide) (fm_dec dtX11_restore 11 rfl) ?_
    refine pv_isub (pc := 20) (fm_dec dtX11_restore 12 rfl) ?_
    refine pv_putI (k := 0) (j := 34) (ci := 11) (pc := 21) pfl_X11_206 (by decide) rfl (by decide) (fm_dec dtX11_restore 13 rfl) ?_
    refine pv_aloadn (pc := 24) (n := 0) 0 rfl rfl (fm_dec dtX11_restore 14 rfl) ?_
    refine pv_aloadn (pc := 25) (n := 0) 0 rfl rfl (fm_dec dtX11_restore 15 rfl) ?_
    refine pv_getR (k := 0) (j := 30) (ci := 11) (pc := 26) 26 rfl (by decide) pfl_X11_70 (by decide) rfl (by decide) (fm_dec dtX11_restore 16 rfl) ?_
    refine pv_aloadn (pc := 29) (n := 0) 0 rfl rfl (fm_dec dtX11_restore 17 rfl) ?_
    refine pv_getI (k := 0) (j := 34) (ci := 11) (pc := 30) pfl_X11_206 (by decide) rfl (by decide) (fm_dec dtX11_restore 18 rfl) ?_
    refine pv_aald (k := 26) (n := 3) (r := (519 + (i - 1))) (pc := 33) (by decide) (Or.inr (Or.inr rfl)) rfl (rw_kept.inb e1 (by omega)) (rw_kept.at e1 (by omega)) (rw_kept.2.2.2 (i - 1) (by omega)).2.1 (fm_dec dtX11_restore 19 rfl) ?_
    refine pv_iconst (pc := 34) (v := 1) (by decide) (fm_dec dtX11_restore 20 rfl) ?_
    refine pv_invV2 (k := 0) (d' := 1) (pc := 35) pcv_X11_443 (by decide) rfl (Nat.le_of_ble_eq_true rfl) (by decide) (fm_dec dtX11_restore 21 rfl) ?_
    refine c_putsAll1 (i := i - 1) (by omega) (fun M35 p35 => ?_)
    refine pv_then0 ?_
    refine pv_aloadn (pc := 38) (n := 0) 0 rfl rfl (fm_dec dtX11_restore 22 rfl) ?_
    refine pv_iconst (pc := 39) (v := 0) (by decide) (fm_dec dtX11_restore 23 rfl) ?_
    refine pv_putI (k := 0) (j := 33) (ci := 11) (pc := 40) pfl_X11_203 (by decide) rfl (by decide) (fm_dec dtX11_restore 24 rfl) ?_
    refine pv_aloadn (pc := 43) (n := 0) 0 rfl rfl (fm_dec dtX11_restore 25 rfl) ?_
    refine pv_getI (k := 0) (j := 34) (ci := 11) (pc := 44) pfl_X11_206 (by decide) rfl (by decide) (fm_dec dtX11_restore 26 rfl) ?_
    exact pv_ireturn (pc := 47) rfl (fm_dec dtX11_restore 27 rfl) (by have h9 := hq h0 M35 p35; have e9 : M35.1 0 34 = M.1 0 34 - 1 := (p35.2.1 0 34 (fun t ht h8 => by have := sl_d t ht; omega) (by decide)).trans rfl; rw [← e9] at h9; exact h9)
  · refine pv_iconst (pc := 12) (v := (-1)) (by decide) (fm_dec dtX11_restore 6 rfl) ?_
    exact pv_ireturn (pc := 13) rfl (fm_dec dtX11_restore 7 rfl) (hn (by have h9 : (M.1 0 34).toInt = (0 : Int32).toInt := congrArg Int32.toInt hc9; have z0 : (0 : Int32).toInt = 0 := (by decide); omega))
set_option maxRecDepth 20000 in
theorem c_munS {M : fmM} {Q : fmR → fmM → Prop} {w : Nat} (hw : (M.1 0 32).toInt = (w : Int)) (h16 : w ≤ 16) (hn : w = 0 → Q (.inl (some (.int (-1)))) (fmI M 0 0 0)) (hq : 0 < w → ∀ M1 : fmM, cpB (503 + (w - 1)) 7 14 (fmI (fmI M 0 0 0) 0 32 (M.1 0 32 - 1)) M1 → Q (.inl (some (.int (M.1 0 32 - 1)))) (fmI M1 0 33 0)) : pvGood Tm 1 qX11_undo [.ref 0] M Q := by
  refine pvGood_of (Nat.le_of_ble_eq_true rfl) ?_
  show pvEv Tm 1 qX11_undo 0 [some (.ref 0)] [] M Q
  refine pv_aloadn (pc := 0) (n := 0) 0 rfl rfl (fm_dec dtX11_undo 0 rfl) ?_
  refine pv_iconst (pc := 1) (v := 0) (by decide) (fm_dec dtX11_undo 1 rfl) ?_
  refine pv_putI (k := 0) (j := 0) (ci := 11) (pc := 2) pfl_X11_101 (by decide) rfl (by decide) (fm_dec dtX11_undo 2 rfl) ?_
  refine pv_aloadn (pc := 5) (n := 0) 0 rfl rfl (fm_dec dtX11_undo 3 rfl) ?_
  refine pv_getI (k := 0) (j := 32) (ci := 11) (pc := 6) pfl_X11_200 (by decide) rfl (by decide) (fm_dec dtX11_undo 4 rfl) ?_
  refine pv_if_ne (pc := 9) 14 (by decide) (fm_dec dtX11_undo 5 rfl) (fun hc9 => ?_) (fun hc9 => ?_)
  · have h0 : 0 < w := (by have h9 : ¬ w = 0 := (fun h9 => hc9 (i32_ext (by show (M.1 0 32).toInt = _; rw [hw, h9]; decide))); omega)
    have e1 : ((fmI M 0 0 0).1 0 32 - 1).toInt = ((w - 1 : Nat) : Int) := (by have z1 : (1 : Int32).toInt = 1 := (by decide); have hw0 : ((fmI M 0 0 0).1 0 32).toInt = (w : Int) := hw; rw [sc_sub (by omega) (by omega)]; omega)
    refine pv_aloadn (pc := 14) (n := 0) 0 rfl rfl (fm_dec dtX11_undo 8 rfl) ?_
    refine pv_dup (pc := 15) rfl (fm_dec dtX11_undo 9 rfl) ?_
    refine pv_getI (k := 0) (j := 32) (ci := 11) (pc := 16) pfl_X11_200 (by decide) rfl (by decide) (fm_dec dtX11_undo 10 rfl) ?_
    refine pv_iconst (pc := 19) (v := 1) (by decide) (fm_dec dtX11_undo 11 rfl) ?_
    refine pv_isub (pc := 20) (fm_dec dtX11_undo 12 rfl) ?_
    refine pv_putI (k := 0) (j := 32) (ci := 11) (pc := 21) pfl_X11_200 (by decide) rfl (by decide) (fm_dec dtX11_undo 13 rfl) ?_
    refine pv_aloadn (pc := 24) (n := 0) 0 rfl rfl (fm_dec dtX11_undo 14 rfl) ?_
    refine pv_getR (k := 0) (j := 29) (ci := 11) (pc := 25) 25 rfl (by decide) pfl_X11_67 (by decide) rfl (by decide) (fm_dec dtX11_undo 15 rfl) ?_
    refine pv_aloadn (pc := 28) (n := 0) 0 rfl rfl (fm_dec dtX11_undo 16 rfl) ?_
    refine pv_getI (k := 0) (j := 32) (ci := 11) (pc := 29) pfl_X11_200 (by decide) rfl (by decide) (fm_dec dtX11_undo 17 rfl) ?_
    refine pv_aald (k := 25) (n := 16) (r := (503 + (w - 1))) (pc := 32) (by decide) (Or.inr (Or.inr rfl)) rfl (rw_before.inb e1 (by omega)) (rw_before.at e1 (by omega)) (rw_before.2.2.2 (w - 1) (by omega)).2.1 (fm_dec dtX11_undo 18 rfl) ?_
    refine pv_aloadn (pc := 33) (n := 0) 0 rfl rfl (fm_dec dtX11_undo 19 rfl) ?_
    refine pv_getR (k := 0) (j := 27) (ci := 11) (pc := 34) 7 rfl (by decide) pfl_X11_61 (by decide) rfl (by decide) (fm_dec dtX11_undo 20 rfl) ?_
    refine pv_iS2 (d' := 0) (pc := 37) pcs_X11_323 (Nat.le_of_ble_eq_true rfl) (by decide) (fm_dec dtX11_undo 21 rfl) ?_
    refine c_mcp (ro_b (w - 1) (by omega)) ro_7 (by omega) (fun M37 k37 => ?_) 
    refine pv_then0 ?_
    refine pv_aloadn (pc := 40) (n := 0) 0 rfl rfl (fm_dec dtX11_undo 22 rfl) ?_
    refine pv_iconst (pc := 41) (v := 0) (by decide) (fm_dec dtX11_undo 23 rfl) ?_
    refine pv_putI (k := 0) (j := 33) (ci := 11) (pc := 42) pfl_X11_203 (by decide) rfl (by decide) (fm_dec dtX11_undo 24 rfl) ?_
    refine pv_aloadn (pc := 45) (n := 0) 0 rfl rfl (fm_dec dtX11_undo 25 rfl) ?_
    refine pv_getI (k := 0) (j := 32) (ci := 11) (pc := 46) pfl_X11_200 (by decide) rfl (by decide) (fm_dec dtX11_undo 26 rfl) ?_
    exact pv_ireturn (pc := 49) rfl (fm_dec dtX11_undo 27 rfl) (by have h9 := hq h0 M37 k37; have e9 : M37.1 0 32 = M.1 0 32 - 1 := (k37.2.1 0 32 (by omega)).trans rfl; rw [← e9] at h9; exact h9)
  · refine pv_iconst (pc := 12) (v := (-1)) (by decide) (fm_dec dtX11_undo 6 rfl) ?_
    exact pv_ireturn (pc := 13) rfl (fm_dec dtX11_undo 7 rfl) (hn (by have h9 : (M.1 0 32).toInt = (0 : Int32).toInt := congrArg Int32.toInt hc9; have z0 : (0 : Int32).toInt = 0 := (by decide); omega))
-- THE STATES OF BOTH SIDES
/-- a state as the reference's row f has it -/
def msA (f : Nat → Int32) (D : dD) (S : aS) : Prop := (f 0).toInt = (S.1.2.2.1 : Int) ∧ (f 10).toInt = (S.1.1 : Int) ∧ (f 9).toInt = (S.1.2.1 : Int) ∧ (f 11).toInt = (S.1.2.2.2.1 : Int) ∧ (f 12).toInt = (S.1.2.2.2.2.1 : Int) ∧ (f 13).toInt = S.1.2.2.2.2.2 ∧ ∀ i, i < D.1 → (f (1 + i)).toInt = if S.2 i = -1 then -1000 else (S.1.1 : Int) - S.2 i
theorem mst_A {M : fmM} {D : dD} {S : aS} : mst M D S ↔ msA (M.1 7) D S := Iff.rfl
theorem msA.of {f g : Nat → Int32} {D : dD} {S : aS} (h : msA f D S) (hD : D.1 ≤ 8) (e : ∀ j, j < 14 → g j = f j) : msA g D S := by
  obtain ⟨a, b, c, d, e1, f1, g1⟩ := h
  exact ⟨by rw [e 0 (by decide)]; exact a, by rw [e 10 (by decide)]; exact b, by rw [e 9 (by decide)]; exact c, by rw [e 11 (by decide)]; exact d, by rw [e 12 (by decide)]; exact e1, by rw [e 13 (by decide)]; exact f1, fun i hi => by rw [e (1 + i) (by omega)]; exact g1 i hi⟩
/-- cells k, a of the first side and the row f speak of one state -/
def pairS (k a : Nat) (f : Nat → Int32) (M : fmM) (D : dD) : Prop := ∃ S, xsA k a M D S ∧ msA f D S ∧ stO D S
theorem pairS.cp {k a k' a' : Nat} {f g : Nat → Int32} {M M' : fmM} {D : dD} (h : pairS k a f M D) (hD : D.1 ≤ 8) (hc : smS k' a' k a M M') (e : ∀ j, j < 14 → g j = f j) : pairS k' a' g M' D := by
  obtain ⟨S, h1, h2, h3⟩ := h
  exact ⟨S, hc.st hD h1, h2.of hD e, h3⟩
theorem smS.same {k a : Nat} {M M' : fmM} (h1 : ∀ j, M'.1 k j = M.1 k j) (h2 : ∀ j, M'.1 a j = M.1 a j) (h3 : M'.2 k 6 = M.2 k 6) : smS k a k a M M' := ⟨fun j _ _ => h1 j, h3, fun i _ => h2 i⟩
/-- shelf z, and what the reference keeps of it: how many works, the state now, those ahead -/
def shP (z : Nat) (W : Int32) (N : Nat → Int32) (B : Nat → Nat → Int32) (M : fmM) (D : dD) : Prop := M.1 (46 + 36 * z) 2 = W ∧ pairS (47 + 36 * z) (48 + 36 * z) N M D ∧ ∀ w : Nat, (w : Int) < W.toInt → w < 16 → pairS (50 + 36 * z + w) (66 + 36 * z + w) (B w) M D
theorem shP.cp {z1 z2 : Nat} {W W' : Int32} {N N' : Nat → Int32} {B B' : Nat → Nat → Int32} {M M' : fmM} {D : dD} (h : shP z2 W N B M D) (hD : D.1 ≤ 8) (c1 : smS (47 + 36 * z1) (48 + 36 * z1) (47 + 36 * z2) (48 + 36 * z2) M M') (c2 : M'.1 (46 + 36 * z1) 2 = M.1 (46 + 36 * z2) 2) (c3 : ∀ w : Nat, (w : Int) < (M.1 (46 + 36 * z2) 2).toInt → w < 16 → smS (50 + 36 * z1 + w) (66 + 36 * z1 + w) (50 + 36 * z2 + w) (66 + 36 * z2 + w) M M') (eW : W' = W) (eN : ∀ j, j < 14 → N' j = N j) (eB : ∀ w, w < 16 → ∀ j, j < 14 → B' w j = B w j) : shP z1 W' N' B' M' D := by
  obtain ⟨h1, h2, h3⟩ := h
  subst eW
  exact ⟨c2.trans h1, h2.cp hD c1 eN, fun w hw h16 => (h3 w hw h16).cp hD (c3 w (by rw [h1]; exact hw) h16) (eB w h16)⟩
theorem shP.keep {z : Nat} {W W' : Int32} {N N' : Nat → Int32} {B B' : Nat → Nat → Int32} {M M' : fmM} {D : dD} (h : shP z W N B M D) (hD : D.1 ≤ 8) (hM : ∀ k, 46 + 36 * z ≤ k → k < 82 + 36 * z → ∀ j, M'.1 k j = M.1 k j ∧ M'.2 k j = M.2 k j) (eW : W' = W) (eN : ∀ j, j < 14 → N' j = N j) (eB : ∀ w, w < 16 → ∀ j, j < 14 → B' w j = B w j) : shP z W' N' B' M' D :=
  h.cp hD (smS.same (fun j => (hM _ (by omega) (by omega) j).1) (fun j => (hM _ (by omega) (by omega) j).1) (hM _ (by omega) (by omega) 6).2) (hM _ (by omega) (by omega) 2).1 (fun w _ h16 => smS.same (fun j => (hM _ (by omega) (by omega) j).1) (fun j => (hM _ (by omega) (by omega) j).1) (hM _ (by omega) (by omega) 6).2) eW eN eB
/-- all states of both sides -/
def rSt (M M2 : fmM) (D : dD) : Prop := shP 0 (M2.1 0 32) (M2.1 7) (fun w => M2.1 (503 + w)) M D ∧ M.1 0 13 = M2.1 0 34 ∧ ∀ i : Nat, (i : Int) < (M.1 0 13).toInt → i < 3 → shP (1 + i) (M2.1 (519 + i) 0) (fun j => M2.1 (519 + i) (1 + j)) (fun w j => M2.1 (519 + i) (15 + 14 * w + j)) M D
theorem sl_n : ∀ j, j < 14 → sl (1 + j) = (7, j) := by decide +kernel
theorem sl_w : ∀ w, w < 16 → ∀ j, j < 14 → sl (15 + 14 * w + j) = (503 + w, j) := by decide +kernel
/-- what queries and texts leave -/
def skX (M M' : fmM) : Prop := (∀ k, 46 ≤ k → k < 190 → ∀ j, M'.1 k j = M.1 k j ∧ M'.2 k j = M.2 k j) ∧ M'.1 0 13 = M.1 0 13
def skM (M M' : fmM) : Prop := (∀ k j, k = 7 ∨ (503 ≤ k ∧ k < 522) → M'.1 k j = M.1 k j) ∧ M'.1 0 32 = M.1 0 32 ∧ M'.1 0 34 = M.1 0 34
theorem rSt.keep {M M' M2 M2' : fmM} {D : dD} (h : rSt M M2 D) (hD : D.1 ≤ 8) (k1 : skX M M') (k2 : skM M2 M2') : rSt M' M2' D := by
  obtain ⟨h1, h2, h3⟩ := h
  refine ⟨h1.keep hD (fun k a b => k1.1 k (by omega) (by omega)) k2.2.1 (fun j _ => k2.1 7 j (Or.inl rfl)) (fun w hw j _ => k2.1 _ j (Or.inr ⟨by omega, by omega⟩)), k1.2.trans (h2.trans k2.2.2.symm), fun i hi h3' => ?_⟩
  rw [k1.2] at hi
  exact (h3 i hi h3').keep hD (fun k a b => k1.1 k (by omega) (by omega)) (k2.1 _ 0 (Or.inr ⟨by omega, by omega⟩)) (fun j _ => k2.1 _ _ (Or.inr ⟨by omega, by omega⟩)) (fun w hw j _ => k2.1 _ _ (Or.inr ⟨by omega, by omega⟩))
/-- image -/
theorem rSt.im {M M1 M2 M3 : fmM} {D : dD} {i : Nat} (h : rSt M M2 D) (hD : D.1 ≤ 8) (hi : (M.1 0 13).toInt = (i : Int)) (h3 : i < 3) (c : shA (1 + i) 0 M M1) (p : pa0 (fmI M2 0 0 0) i 239 M3) : rSt (fmI M1 0 13 (M.1 0 13 + 1)) (fmI M3 0 34 (M2.1 0 34 + 1)) D := by
  obtain ⟨h1, h2, h4⟩ := h
  have ep : ∀ k j, ¬ (k = 519 + i ∧ j < 239) → ¬ (k = 0 ∧ j = 35) → ¬ (k = 0 ∧ j = 0) → ¬ (k = 0 ∧ j = 34) → (fmI M3 0 34 (M2.1 0 34 + 1)).1 k j = M2.1 k j := fun k j a b c d => by
    rw [fmI_at, if_neg d, p.2.1 k j a b, fmI_at, if_neg c]
  have es : ∀ t, t < 239 → (fmI M3 0 34 (M2.1 0 34 + 1)).1 (519 + i) t = M2.1 (sl t).1 (sl t).2 := fun t ht => by
    rw [fmI_k _ _ (by omega), p.1 t ht, fmI_at, if_neg (by have := sl_d t ht; omega)]
  have ec : ∀ k, ¬ (46 + 36 * (1 + i) ≤ k ∧ k < 82 + 36 * (1 + i)) → ¬ k = 0 → ∀ j, (fmI M1 0 13 (M.1 0 13 + 1)).1 k j = M.1 k j ∧ (fmI M1 0 13 (M.1 0 13 + 1)).2 k j = M.2 k j := fun k a b j => by
    rw [fmI_k _ _ b]
    exact c.2.2.2 k a j
  refine ⟨h1.keep hD (fun k a b j => ec k (by omega) (by omega) j) (ep 0 32 (by omega) (by omega) (by omega) (by omega)) (fun j _ => ep 7 j (by omega) (by omega) (by omega) (by omega)) (fun w _ j _ => ep _ j (by omega) (by omega) (by omega) (by omega)), ?_, fun i' hi' h3' => ?_⟩
  · rw [fmI_s, fmI_s, h2]
  · rw [fmI_s, i32_p1 hi (by omega)] at hi'
    by_cases e : i' = i
    · subst e
      refine h1.cp hD (c.1.fr (fun j => by rw [fmI_k _ _ (by omega)]) (fun j => by rw [fmI_k _ _ (by omega)]) rfl) (by rw [fmI_k _ _ (by omega)]; exact c.2.1) (fun w hw h16 => (c.2.2.1 w hw h16).fr (fun j => by rw [fmI_k _ _ (by omega)]) (fun j => by rw [fmI_k _ _ (by omega)]) rfl) (by rw [es 0 (by decide)]; rfl) (fun j hj => ?_) (fun w hw j hj => ?_)
      · show (fmI M3 0 34 (M2.1 0 34 + 1)).1 (519 + i') (1 + j) = M2.1 7 j
        rw [es (1 + j) (by omega), sl_n j hj]
      · show (fmI M3 0 34 (M2.1 0 34 + 1)).1 (519 + i') (15 + 14 * w + j) = M2.1 (503 + w) j
        rw [es (15 + 14 * w + j) (by omega), sl_w w hw j hj]
    · exact (h4 i' (by omega) h3').keep hD (fun k a b j => ec k (by omega) (by omega) j) (ep _ 0 (by omega) (by omega) (by omega) (by omega)) (fun j hj => ep _ _ (by omega) (by omega) (by omega) (by omega)) (fun w hw j hj => ep _ _ (by omega) (by omega) (by omega) (by omega))
/-- and back -/
theorem rSt.re {M M1 M2 M3 : fmM} {D : dD} {i : Nat} (h : rSt M M2 D) (hD : D.1 ≤ 8) (hi : (M.1 0 13).toInt = (i : Int)) (h0 : 0 < i) (h3 : i ≤ 3) (c : shA 0 (1 + (i - 1)) (fmI M 0 13 (M.1 0 13 - 1)) M1) (p : pa1 (fmI (fmI M2 0 0 0) 0 34 (M2.1 0 34 - 1)) (i - 1) 239 M3) : rSt (fmI (fmI M1 0 14 0) 34 5 0) (fmI M3 0 33 0) D := by
  obtain ⟨h1, h2, h4⟩ := h
  have e1 : (M.1 0 13 - 1).toInt = ((i - 1 : Nat) : Int) := by
    have z1 : (1 : Int32).toInt = 1 := by decide
    rw [sc_sub (by omega) (by omega)]
    omega
  have ex : ∀ k, 82 ≤ k → ∀ j, (fmI (fmI M1 0 14 0) 34 5 0).1 k j = M.1 k j ∧ (fmI (fmI M1 0 14 0) 34 5 0).2 k j = M.2 k j := fun k a j => by
    rw [fmI_k _ _ (by omega), fmI_k _ _ (by omega)]
    have h9 := c.2.2.2 k (by omega) j
    rw [fmI_k _ _ (by omega)] at h9
    exact h9
  have e13 : (fmI (fmI M1 0 14 0) 34 5 0).1 0 13 = M.1 0 13 - 1 := by
    rw [fmI_k _ _ (by decide), fmI_j _ _ (by decide), (c.2.2.2 0 (by omega) 13).1, fmI_s]
  have em : ∀ k j, k ≠ 0 → k ≠ 7 → ¬ (503 ≤ k ∧ k < 519) → (fmI M3 0 33 0).1 k j = M2.1 k j := fun k j a b c => by
    rw [fmI_k _ _ a, p.2.1 k j (fun t ht h9 => by have := sl_d t ht; omega) (by omega), fmI_k _ _ a, fmI_k _ _ a]
  have e34 : (fmI M3 0 33 0).1 0 34 = M2.1 0 34 - 1 := by
    rw [fmI_j _ _ (by decide), p.2.1 0 34 (fun t ht h9 => by have := sl_d t ht; omega) (by decide), fmI_s]
  have es : ∀ t, t < 239 → M3.1 (sl t).1 (sl t).2 = M2.1 (519 + (i - 1)) t := fun t ht => by
    rw [p.1 t ht, fmI_k _ _ (by omega), fmI_k _ _ (by omega)]
  have hz := h4 (i - 1) (by omega) (by omega)
  refine ⟨?_, ?_, fun i' hi' h3' => ?_⟩
  · have hz0 : shP (1 + (i - 1)) (M2.1 (519 + (i - 1)) 0) (fun j => M2.1 (519 + (i - 1)) (1 + j)) (fun w j => M2.1 (519 + (i - 1)) (15 + 14 * w + j)) (fmI M 0 13 (M.1 0 13 - 1)) D := hz.keep hD (fun k a b j => ⟨by rw [fmI_k _ _ (by omega)], rfl⟩) rfl (fun _ _ => rfl) (fun _ _ _ _ => rfl)
    have kk : ∀ k j, k ≠ 0 → k ≠ 34 → (fmI (fmI M1 0 14 0) 34 5 0).1 k j = M1.1 k j := fun k j a b => by rw [fmI_k _ _ b, fmI_k _ _ a]
    refine hz0.cp hD (c.1.fr (fun j => kk _ _ (by omega) (by omega)) (fun j => kk _ _ (by omega) (by omega)) rfl) ((kk _ _ (by omega) (by omega)).trans c.2.1) (fun w hw h16 => (c.2.2.1 w hw h16).fr (fun j => kk _ _ (by omega) (by omega)) (fun j => kk _ _ (by omega) (by omega)) rfl) ?_ (fun j hj => ?_) (fun w hw j hj => ?_)
    · rw [fmI_j _ _ (by decide)]
      exact es 0 (by decide)
    · show (fmI M3 0 33 0).1 7 j = M2.1 (519 + (i - 1)) (1 + j)
      have h9 := es (1 + j) (by omega)
      rw [sl_n j hj] at h9
      rw [fmI_k _ _ (by decide)]
      exact h9
    · show (fmI M3 0 33 0).1 (503 + w) j = M2.1 (519 + (i - 1)) (15 + 14 * w + j)
      have h9 := es (15 + 14 * w + j) (by omega)
      rw [sl_w w hw j hj] at h9
      rw [fmI_k _ _ (by omega)]
      exact h9
  · rw [e13, e34, h2]
  · rw [e13, e1] at hi'
    exact (h4 i' (by omega) h3').keep hD (fun k a b j => ex k (by omega) j) (em _ _ (by omega) (by omega) (by omega)) (fun j hj => em _ _ (by omega) (by omega) (by omega)) (fun w hw j hj => em _ _ (by omega) (by omega) (by omega))
/-- a work undone -/
theorem rSt.un {M M1 M2 M3 : fmM} {D : dD} {w : Nat} (h : rSt M M2 D) (hD : D.1 ≤ 8) (hw : (M.1 46 2).toInt = (w : Int)) (h0 : 0 < w) (h16 : w ≤ 16) (c : cpR 47 48 (50 + (w - 1)) (66 + (w - 1)) (fmI M 46 2 (M.1 46 2 - 1)) M1) (p : cpB (503 + (w - 1)) 7 14 (fmI (fmI M2 0 0 0) 0 32 (M2.1 0 32 - 1)) M3) : rSt (fmI (fmI M1 0 14 0) 34 5 0) (fmI M3 0 33 0) D := by
  obtain ⟨⟨h1, h2, h3⟩, h4, h5⟩ := h
  have e1 : (M.1 46 2 - 1).toInt = ((w - 1 : Nat) : Int) := by
    have z1 : (1 : Int32).toInt = 1 := by decide
    rw [sc_sub (by omega) (by omega)]
    omega
  have h1 : M.1 46 2 = M2.1 0 32 := h1
  have kk : ∀ k j, k ≠ 0 → k ≠ 34 → (fmI (fmI M1 0 14 0) 34 5 0).1 k j = M1.1 k j := fun k j a b => by rw [fmI_k _ _ b, fmI_k _ _ a]
  have kx : ∀ k, k ≠ 0 → k ≠ 34 → k ≠ 46 → k ≠ 47 → k ≠ 48 → ∀ j, (fmI (fmI M1 0 14 0) 34 5 0).1 k j = M.1 k j ∧ (fmI (fmI M1 0 14 0) 34 5 0).2 k j = M.2 k j := fun k a b d e f j => ⟨by rw [kk k j a b, c.2.1 k j e f, fmI_k _ _ d], c.2.2 k j e⟩
  have em : ∀ k j, k ≠ 0 → k ≠ 7 → (fmI M3 0 33 0).1 k j = M2.1 k j := fun k j a b => by
    rw [fmI_k _ _ a, p.2.1 k j (by omega), fmI_k _ _ a, fmI_k _ _ a]
  have e32 : (fmI M3 0 33 0).1 0 32 = M2.1 0 32 - 1 := by
    rw [fmI_j _ _ (by decide), p.2.1 0 32 (by omega), fmI_s]
  have e34 : (fmI M3 0 33 0).1 0 34 = M2.1 0 34 := by
    rw [fmI_j _ _ (by decide), p.2.1 0 34 (by omega), fmI_j _ _ (by decide), fmI_j _ _ (by decide)]
  have e13 : (fmI (fmI M1 0 14 0) 34 5 0).1 0 13 = M.1 0 13 := by
    rw [fmI_k _ _ (by decide), fmI_j _ _ (by decide), c.2.1 0 13 (by decide) (by decide), fmI_k _ _ (by decide)]
  refine ⟨⟨?_, ?_, fun w' hw' h16' => ?_⟩, ?_, fun i' hi' h3' => ?_⟩
  · show (fmI (fmI M1 0 14 0) 34 5 0).1 46 2 = _
    rw [kk _ _ (by decide) (by decide), c.2.1 46 2 (by decide) (by decide), fmI_s, e32, h1]
  · have h9 := h3 (w - 1) (by rw [← h1]; omega) (by omega)
    have h8 : pairS (50 + (w - 1)) (66 + (w - 1)) (M2.1 (503 + (w - 1))) (fmI M 46 2 (M.1 46 2 - 1)) D := h9.cp hD (smS.same (fun j => by rw [fmI_k _ _ (by omega)]) (fun j => by rw [fmI_k _ _ (by omega)]) rfl) (fun _ _ => rfl)
    refine h8.cp hD (c.1.fr (fun j => kk _ _ (by decide) (by decide)) (fun j => kk _ _ (by decide) (by decide)) rfl) (fun j hj => ?_)
    show (fmI M3 0 33 0).1 7 j = M2.1 (503 + (w - 1)) j
    rw [fmI_k _ _ (by decide), p.1 j hj, fmI_k _ _ (by omega), fmI_k _ _ (by omega)]
  · rw [e32, ← h1, e1] at hw'
    exact (h3 w' (by rw [← h1]; omega) h16').cp hD (smS.same (fun j => (kx _ (by omega) (by omega) (by omega) (by omega) (by omega) j).1) (fun j => (kx _ (by omega) (by omega) (by omega) (by omega) (by omega) j).1) (kx _ (by omega) (by omega) (by omega) (by omega) (by omega) 6).2) (fun j _ => em _ _ (by omega) (by omega))
  · rw [e13, e34]
    exact h4
  · rw [e13] at hi'
    exact (h5 i' hi' h3').keep hD (fun k a b j => kx k (by omega) (by omega) (by omega) (by omega) (by omega) j) (em _ _ (by omega) (by omega)) (fun j hj => em _ _ (by omega) (by omega)) (fun w hw j hj => em _ _ (by omega) (by omega))
end
-- P 18ye
section
-- THE STATE BEHIND A DRAWER
def stNew (M : fmM) (D : dD) : Prop := M.1 47 1 = 0 ∧ M.1 47 2 = 0 ∧ (M.1 47 3).toInt = D.2.2.2.2 2 ∧ M.1 47 4 = 0 ∧ M.1 47 5 = 0 ∧ M.2 47 6 = 0 ∧ (∀ i, i < D.1 → (M.1 48 i).toInt = D.2.1 i 4) ∧ M.1 0 14 = 0
def bgK (M M' : fmM) : Prop := M'.1 47 1 = 0 ∧ M'.1 47 2 = 0 ∧ M'.1 47 3 = M.1 3 11 ∧ M'.1 47 4 = 0 ∧ M'.1 47 5 = 0 ∧ M'.2 47 6 = 0 ∧ ∀ i, i < 8 → M'.1 48 i = M.1 8 i
set_option maxRecDepth 20000 in
theorem c_xbegin {M : fmM} {Q : fmR → fmM → Prop}  (hq : ∀ M' : fmM, bgK M M' → Q (.inl none) M') : pvGood Tx 0 qX6_begin [.ref 47, .ref 3] M Q := by
  refine pvGood_of (Nat.le_of_ble_eq_true rfl) ?_
  show pvEv Tx 0 qX6_begin 0 [some (.ref 47), some (.ref 3)] [] M Q
  refine pv_aloadn (pc := 0) (n := 1) 1 rfl rfl (fm_dec dtX6_begin 0 rfl) ?_
  refine pv_getR (k := 3) (j := 4) (ci := 8) (pc := 1) 8 rfl (by decide) pfl_X6_15 (by decide) rfl (by decide) (fm_dec dtX6_begin 1 rfl) ?_
  refine pv_iconst (pc := 4) (v := 0) (by decide) (fm_dec dtX6_begin 2 rfl) ?_
  refine pv_aloadn (pc := 5) (n := 0) 0 rfl rfl (fm_dec dtX6_begin 3 rfl) ?_
  refine pv_getR (k := 47) (j := 0) (ci := 6) (pc := 6) 48 rfl (by decide) pfl_X6_9 (by decide) rfl (by decide) (fm_dec dtX6_begin 4 rfl) ?_
  refine pv_iconst (pc := 9) (v := 0) (by decide) (fm_dec dtX6_begin 5 rfl) ?_
  refine pv_bipush (pc := 10) (v := 8) (by decide) (fm_dec dtX6_begin 6 rfl) ?_
  refine pv_copy (k0 := 8) (k1 := 48) (n0 := 8) (n1 := 8) (pc := 12) pcm_X6_20 pcc_X6_20 (by decide) rfl rfl (by decide) rfl rfl (by decide) (by decide) (by decide) (by decide) (by decide) (Nat.le_of_ble_eq_true rfl) (fm_dec dtX6_begin 7 rfl) ?_
  show pvEv Tx 0 qX6_begin _ _ _ (cpA M 48 8 8) Q
  refine pv_aloadn (pc := 15) (n := 0) 0 rfl rfl (fm_dec dtX6_begin 8 rfl) ?_
  refine pv_iconst (pc := 16) (v := 0) (by decide) (fm_dec dtX6_begin 9 rfl) ?_
  refine pv_putI (k := 47) (j := 1) (ci := 6) (pc := 17) pfl_X6_26 (by decide) rfl (by decide) (fm_dec dtX6_begin 10 rfl) ?_
  refine pv_aloadn (pc := 20) (n := 0) 0 rfl rfl (fm_dec dtX6_begin 11 rfl) ?_
  refine pv_iconst (pc := 21) (v := 0) (by decide) (fm_dec dtX6_begin 12 rfl) ?_
  refine pv_putI (k := 47) (j := 2) (ci := 6) (pc := 22) pfl_X6_30 (by decide) rfl (by decide) (fm_dec dtX6_begin 13 rfl) ?_
  refine pv_aloadn (pc := 25) (n := 0) 0 rfl rfl (fm_dec dtX6_begin 14 rfl) ?_
  refine pv_aloadn (pc := 26) (n := 1) 1 rfl rfl (fm_dec dtX6_begin 15 rfl) ?_
  refine pv_getI (k := 3) (j := 11) (ci := 8) (pc := 27) pfl_X6_33 (by decide) rfl (by decide) (fm_dec dtX6_begin 16 rfl) ?_
  refine pv_putI (k := 47) (j := 3) (ci := 6) (pc := 30) pfl_X6_36 (by decide) rfl (by decide) (fm_dec dtX6_begin 17 rfl) ?_
  refine pv_aloadn (pc := 33) (n := 0) 0 rfl rfl (fm_dec dtX6_begin 18 rfl) ?_
  refine pv_iconst (pc := 34) (v := 0) (by decide) (fm_dec dtX6_begin 19 rfl) ?_
  refine pv_putI (k := 47) (j := 4) (ci := 6) (pc := 35) pfl_X6_39 (by decide) rfl (by decide) (fm_dec dtX6_begin 20 rfl) ?_
  refine pv_aloadn (pc := 38) (n := 0) 0 rfl rfl (fm_dec dtX6_begin 21 rfl) ?_
  refine pv_iconst (pc := 39) (v := 0) (by decide) (fm_dec dtX6_begin 22 rfl) ?_
  refine pv_putI (k := 47) (j := 5) (ci := 6) (pc := 40) pfl_X6_42 (by decide) rfl (by decide) (fm_dec dtX6_begin 23 rfl) ?_
  refine pv_aloadn (pc := 43) (n := 0) 0 rfl rfl (fm_dec dtX6_begin 24 rfl) ?_
  refine pv_lconst (pc := 44) (v := 0) (by decide) (fm_dec dtX6_begin 25 rfl) ?_
  refine pv_putJ (k := 47) (j := 6) (ci := 6) (pc := 45) pfl_X6_45 (by decide) rfl (by decide) (fm_dec dtX6_begin 26 rfl) ?_
  exact pv_return (pc := 48) rfl (fm_dec dtX6_begin 27 rfl) (hq _ ⟨rfl, rfl, rfl, rfl, rfl, rfl, fun i hi => (by show (cpA M 48 8 8).1 48 i = _; rw [cpA_at, if_pos ⟨rfl, hi⟩])⟩)
theorem x_begin {M : fmM} {Q : fmR → fmM → Prop} (hI : scInv Tx invX M) (hq : ∀ M' : fmM, scInv Tx invX M' → scFr [(47, 1, 6), (48, 0, 8)] M M' → bgK M M' → Q (.inl none) M') : pvGood Tx 0 qX6_begin [.ref 47, .ref 3] M Q := ((c_xbegin (Q := fun r M' => r = .inl none ∧ bgK M M') (fun M' h => ⟨rfl, h⟩)).and (s_begin6 (Q := fun _ M' => scInv Tx invX M' ∧ scFr [(47, 1, 6), (48, 0, 8)] M M') hI (fun M' h1 h2 => ⟨h1, h2⟩))).imp (fun r M' h => by
  obtain ⟨⟨rfl, e⟩, h1, h2⟩ := h
  exact hq M' h1 h2 e)
set_option maxRecDepth 20000 in
theorem c_xdrawS {M : fmM} {Q : fmR → fmM → Prop} {T : Nat → tX} {nn : Int32} (hI : scInv Tx invX M) (hT : txF M T) (hrf : ¬ txP nn 600 (M.1 1 1).toInt → Q (.inr fmIAE) (fmI M 0 16 (M.1 0 16 + 1))) (hok : ∀ (n : Nat) (M' : fmM) (D : dD) (r : Int32), nn.toInt = (n : Int) → txP nn 600 (M.1 1 1).toInt → spDrawer (T n) n = .inr D → r.toInt = (D.1 : Int) → dwNew M' D → stNew M' D → Q (.inl (some (.int r))) M') (hbad : ∀ (n k a : Nat) (M' : fmM) (r : Int32), nn.toInt = (n : Int) → txP nn 600 (M.1 1 1).toInt → spDrawer (T n) n = .inl (k, a) → r.toInt = (k : Int) - 10 → tbad (opM M nn) M' k a → Q (.inl (some (.int r))) M') : pvGood Tx 41 qX10_drawer [.ref 0, .int nn] M Q := by
  refine pvGood_of (Nat.le_of_ble_eq_true rfl) ?_
  show pvEv Tx 41 qX10_drawer 0 [some (.ref 0), some (.int nn)] [] M Q
  refine pv_aloadn (pc := 0) (n := 0) 0 rfl rfl (fm_dec dtX10_drawer 0 rfl) ?_
  refine pv_iloadn (pc := 1) (n := 1) 1 rfl rfl (fm_dec dtX10_drawer 1 rfl) ?_
  refine pv_sipush (pc := 2) (v := 600) (by decide) (fm_dec dtX10_drawer 2 rfl) ?_
  refine pv_invV2 (k := 0) (d' := 1) (pc := 5) pcv_X10_108 (by decide) rfl (Nat.le_of_ble_eq_true rfl) (by decide) (fm_dec dtX10_drawer 3 rfl) ?_
  refine c_openT (fun h5 => ?_) (fun h5 => ?_)
  · refine pv_then0 ?_
    have h56 : nn.toInt ≤ 600 := h5.2.1
    obtain ⟨n, hn⟩ : ∃ n : Nat, nn.toInt = (n : Int) := ⟨nn.toInt.toNat, by have := h5.1; omega⟩
    have hI5 := inv_open (n := nn) hI h5.1 (by omega)
    have hT9 := hT n (by have := h5.2.2; omega)
    have hS := op_S hn hT9.1 hT9.2
    have hf5 : (opM M nn).1 1 4 = 0 := rfl
    refine pv_aloadn (pc := 8) (n := 0) 0 rfl rfl (fm_dec dtX10_drawer 4 rfl) ?_
    refine pv_getR (k := 0) (j := 2) (ci := 10) (pc := 9) 13 rfl (by decide) pfl_X10_23 (by decide) rfl (by decide) (fm_dec dtX10_drawer 5 rfl) ?_
    refine pv_aloadn (pc := 12) (n := 0) 0 rfl rfl (fm_dec dtX10_drawer 6 rfl) ?_
    refine pv_getR (k := 0) (j := 0) (ci := 10) (pc := 13) 1 rfl (by decide) pfl_X10_12 (by decide) rfl (by decide) (fm_dec dtX10_drawer 7 rfl) ?_
    refine pv_invV1 (k := 13) (d' := 7) (pc := 16) pcv_X10_112 (by decide) rfl (Nat.le_of_ble_eq_true rfl) (by decide) (fm_dec dtX10_drawer 8 rfl) ?_
    refine c_xdread hS hf5 hI5 (fun M16 D16 e16 k16 => ?_) (fun Mb kb ab eb hB => ?_)  
    · refine pv_then1 ?_
      refine pv_if_ne (pc := 19) 33 (by decide) (fm_dec dtX10_drawer 9 rfl) (fun _ => ?_) (fun hc19 => by exfalso; revert hc19; decide)
      refine pv_aloadn (pc := 33) (n := 0) 0 rfl rfl (fm_dec dtX10_drawer 16 rfl) ?_
      refine pv_getR (k := 0) (j := 1) (ci := 10) (pc := 34) 3 rfl (by decide) pfl_X10_19 (by decide) rfl (by decide) (fm_dec dtX10_drawer 17 rfl) ?_
      refine pv_aloadn (pc := 37) (n := 0) 0 rfl rfl (fm_dec dtX10_drawer 18 rfl) ?_
      refine pv_getR (k := 0) (j := 2) (ci := 10) (pc := 38) 13 rfl (by decide) pfl_X10_23 (by decide) rfl (by decide) (fm_dec dtX10_drawer 19 rfl) ?_
      refine pv_invV1 (k := 3) (d' := 0) (pc := 41) pcv_X10_119 (by decide) rfl (Nat.le_of_ble_eq_true rfl) (by decide) (fm_dec dtX10_drawer 20 rfl) ?_
      refine x_copy k16.2.2.2.2 k16.1 k16.2.1 (fun M41 hI41 hW41 f41 => ?_)
      refine pv_then0 ?_
      refine pv_aloadn (pc := 44) (n := 0) 0 rfl rfl (fm_dec dtX10_drawer 21 rfl) ?_
      refine pv_getR (k := 0) (j := 3) (ci := 10) (pc := 45) 23 rfl (by decide) pfl_X10_29 (by decide) rfl (by decide) (fm_dec dtX10_drawer 22 rfl) ?_
      refine pv_invV0 (k := 23) (d' := 0) (pc := 48) pcv_X10_122 (by decide) rfl (Nat.le_of_ble_eq_true rfl) (by decide) (fm_dec dtX10_drawer 23 rfl) ?_
      refine x_clr1 hI41 (fun M48 hI48 f48 c48 => ?_)
      refine pv_then0 ?_
      refine pv_aloadn (pc := 51) (n := 0) 0 rfl rfl (fm_dec dtX10_drawer 24 rfl) ?_
      refine pv_getR (k := 0) (j := 4) (ci := 10) (pc := 52) 27 rfl (by decide) pfl_X10_36 (by decide) rfl (by decide) (fm_dec dtX10_drawer 25 rfl) ?_
      refine pv_invV0 (k := 27) (d' := 0) (pc := 55) pcv_X10_125 (by decide) rfl (Nat.le_of_ble_eq_true rfl) (by decide) (fm_dec dtX10_drawer 26 rfl) ?_
      refine x_clr2 hI48 (fun M55 hI55 f55 c55 => ?_)
      refine pv_then0 ?_
      refine pv_aloadn (pc := 58) (n := 0) 0 rfl rfl (fm_dec dtX10_drawer 27 rfl) ?_
      refine pv_getR (k := 0) (j := 9) (ci := 10) (pc := 59) 46 rfl (by decide) pfl_X10_75 (by decide) rfl (by decide) (fm_dec dtX10_drawer 28 rfl) ?_
      refine pv_getR (k := 46) (j := 0) (ci := 5) (pc := 62) 47 rfl (by decide) pfl_X10_90 (by decide) rfl (by decide) (fm_dec dtX10_drawer 29 rfl) ?_
      refine pv_aloadn (pc := 65) (n := 0) 0 rfl rfl (fm_dec dtX10_drawer 30 rfl) ?_
      refine pv_getR (k := 0) (j := 1) (ci := 10) (pc := 66) 3 rfl (by decide) pfl_X10_19 (by decide) rfl (by decide) (fm_dec dtX10_drawer 31 rfl) ?_
      refine pv_invV1 (k := 47) (d' := 0) (pc := 69) pcv_X10_94 (by decide) rfl (Nat.le_of_ble_eq_true rfl) (by decide) (fm_dec dtX10_drawer 32 rfl) ?_
      refine x_begin hI55 (fun M69 hI69 f69 c69 => ?_)
      refine pv_then0 ?_
      refine pv_aloadn (pc := 72) (n := 0) 0 rfl rfl (fm_dec dtX10_drawer 33 rfl) ?_
      refine pv_getR (k := 0) (j := 9) (ci := 10) (pc := 73) 46 rfl (by decide) pfl_X10_75 (by decide) rfl (by decide) (fm_dec dtX10_drawer 34 rfl) ?_
      refine pv_iconst (pc := 76) (v := 0) (by decide) (fm_dec dtX10_drawer 35 rfl) ?_
      refine pv_putI (k := 46) (j := 2) (ci := 5) (pc := 77) pfl_X10_126 (by decide) rfl (by decide) (fm_dec dtX10_drawer 36 rfl) ?_
      refine pv_aloadn (pc := 80) (n := 0) 0 rfl rfl (fm_dec dtX10_drawer 37 rfl) ?_
      refine pv_iconst (pc := 81) (v := 0) (by decide) (fm_dec dtX10_drawer 38 rfl) ?_
      refine pv_putI (k := 0) (j := 13) (ci := 10) (pc := 82) pfl_X10_129 (by decide) rfl (by decide) (fm_dec dtX10_drawer 39 rfl) ?_
      refine pv_aloadn (pc := 85) (n := 0) 0 rfl rfl (fm_dec dtX10_drawer 40 rfl) ?_
      refine pv_iconst (pc := 86) (v := 0) (by decide) (fm_dec dtX10_drawer 41 rfl) ?_
      refine pv_putI (k := 0) (j := 14) (ci := 10) (pc := 87) pfl_X10_132 (by decide) rfl (by decide) (fm_dec dtX10_drawer 42 rfl) ?_
      refine pv_aloadn (pc := 90) (n := 0) 0 rfl rfl (fm_dec dtX10_drawer 43 rfl) ?_
      refine pv_getR (k := 0) (j := 7) (ci := 10) (pc := 91) 34 rfl (by decide) pfl_X10_61 (by decide) rfl (by decide) (fm_dec dtX10_drawer 44 rfl) ?_
      refine pv_invV0 (k := 34) (d' := 0) (pc := 94) pcv_X10_135 (by decide) rfl (Nat.le_of_ble_eq_true rfl) (by decide) (fm_dec dtX10_drawer 45 rfl) ?_
      refine s_forget (xInv.put (xInv.put (xInv.put hI69 (by decide)) (by decide)) (scq_t 0)) (fun M94 hI94 f94 => ?_)
      refine pv_then0 ?_
      refine pv_aloadn (pc := 97) (n := 0) 0 rfl rfl (fm_dec dtX10_drawer 46 rfl) ?_
      refine pv_getR (k := 0) (j := 1) (ci := 10) (pc := 98) 3 rfl (by decide) pfl_X10_19 (by decide) rfl (by decide) (fm_dec dtX10_drawer 47 rfl) ?_
      refine pv_getI (k := 3) (j := 9) (ci := 8) (pc := 101) pfl_X10_138 (by decide) rfl (by decide) (fm_dec dtX10_drawer 48 rfl) ?_
      exact pv_ireturn (pc := 104) rfl (fm_dec dtX10_drawer 49 rfl) (hok n _ D16 _ hn h5 e16 (by rw [(f94 3 9 rfl).1]; show (M69.1 3 9).toInt = _; rw [(f69 3 9 rfl).1, (f55 3 9 rfl).1, (f48 3 9 rfl).1]; exact hW41.1.1) ⟨k16.2.1, hW41.of (fun k j a b => by rw [kp_of (P := ([(3, 12)], [])) f94 (by decide) k j (kp_in12 a b), fmI_at, if_neg (by omega), fmI_at, if_neg (by omega), fmI_at, if_neg (by omega), kp_of (P := ([(3, 12)], [])) f69 (by decide) k j (kp_in12 a b), kp_of (P := ([(3, 12)], [])) f55 (by decide) k j (kp_in12 a b), kp_of (P := ([(3, 12)], [])) f48 (by decide) k j (kp_in12 a b)]), ⟨(f94 0 13 rfl).1.trans rfl, (f94 46 2 rfl).1.trans rfl⟩, ⟨(f94 27 1 rfl).1.trans ((f69 27 1 rfl).1.trans c55.1), (f94 27 2 rfl).1.trans ((f69 27 2 rfl).1.trans c55.2)⟩, (f94 23 3 rfl).1.trans ((f69 23 3 rfl).1.trans ((f55 23 3 rfl).1.trans c48.1)), (f94 24 0 rfl).1.trans ((f69 24 0 rfl).1.trans ((f55 24 0 rfl).1.trans c48.2.1)), (f94 24 1 rfl).1.trans ((f69 24 1 rfl).1.trans ((f55 24 1 rfl).1.trans c48.2.2.1)), (f94 24 2 rfl).1.trans ((f69 24 2 rfl).1.trans ((f55 24 2 rfl).1.trans c48.2.2.2))⟩ ⟨(f94 47 1 rfl).1.trans c69.1, (f94 47 2 rfl).1.trans c69.2.1, (by rw [(f94 47 3 rfl).1]; show (M69.1 47 3).toInt = _; rw [c69.2.2.1, (f55 3 11 rfl).1, (f48 3 11 rfl).1]; exact hW41.1.2.2.1), (f94 47 4 rfl).1.trans c69.2.2.2.1, (f94 47 5 rfl).1.trans c69.2.2.2.2.1, (f94 47 6 rfl).2.trans c69.2.2.2.2.2.1, fun i hi => (by rw [(f94 48 i rfl).1]; show (M69.1 48 i).toInt = _; rw [c69.2.2.2.2.2.2 i (by have := k16.2.1.1; omega), (f55 8 i rfl).1, (f48 8 i rfl).1]; exact hW41.2.1 i hi 4 (by decide)), (f94 0 14 rfl).1.trans rfl⟩)
    · refine pv_then1 ?_
      refine pv_if_ne (pc := 19) 33 (by decide) (fm_dec dtX10_drawer 9 rfl) (fun hc19 => by exfalso; revert hc19; decide) (fun _ => ?_)
      refine pv_aloadn (pc := 22) (n := 0) 0 rfl rfl (fm_dec dtX10_drawer 10 rfl) ?_
      refine pv_getR (k := 0) (j := 0) (ci := 10) (pc := 23) 1 rfl (by decide) pfl_X10_12 (by decide) rfl (by decide) (fm_dec dtX10_drawer 11 rfl) ?_
      refine pv_getI (k := 1) (j := 4) (ci := 7) (pc := 26) pfl_X10_116 (by decide) rfl (by decide) (fm_dec dtX10_drawer 12 rfl) ?_
      refine pv_bipush (pc := 29) (v := 10) (by decide) (fm_dec dtX10_drawer 13 rfl) ?_
      refine pv_isub (pc := 31) (fm_dec dtX10_drawer 14 rfl) ?_
      exact pv_ireturn (pc := 32) rfl (fm_dec dtX10_drawer 15 rfl) (hbad n kb ab Mb _ hn h5 eb (law_r hB.1 (by have h9 : (Mb.1 1 4).toInt ≤ 3 := (hB.2.2.2.2.1 1 4 (by decide)).2; have h8 := hB.1; omega)) hB)
  · refine pv_thenX ?_
    exact hrf h5
theorem z_i : (0 : Int32).toInt = ((0 : Nat) : Int) := by decide
theorem z_k : (0 : Int32).toInt = (0 : Int) := by decide
theorem z_j : (0 : Int64).toInt = (0 : Int) := by decide
/-- the state at the start -/
def st0 (D : dD) : aS := ((0, (D.2.2.2.2 2).toNat, 0, 0, 0, 0), fun i => D.2.1 i 4)
theorem st0_O {D : dD} (hD : dOk D) : stO D (st0 D) := by
  have h2 := hD.2.2.2.2.1
  refine ⟨Nat.zero_le _, ?_, (by show (0 : Nat) < 256; decide), (by show (0 : Nat) + 0 = pop8 0; decide), Int.le_refl _, (by show (0 : Int) ≤ 57024 * ((pop8 0 : Nat) : Int); decide), ⟨fun i hi => ?_, Nat.two_pow_pos _⟩⟩
  · show (D.2.2.2.2 2).toNat ≤ 12
    omega
  · show -1 ≤ D.2.1 i 4 ∧ D.2.1 i 4 ≤ ((0 : Nat) : Int) + 40
    have h9 := (hD.2.2.1 i hi).2.2.2.2.1
    omega
theorem st0_x {M : fmM} {D : dD} (hD : dOk D) (h : stNew M D) : xsA 47 48 M D (st0 D) := by
  have h2 := hD.2.2.2.2.1
  obtain ⟨a, b, c, d, e, f, g, -⟩ := h
  refine ⟨by rw [a]; exact z_i, by rw [b]; exact z_i, ?_, by rw [d]; exact z_i, by rw [e]; exact z_i, by rw [f]; exact z_j, g⟩
  rw [c]
  show D.2.2.2.2 2 = (((D.2.2.2.2 2).toNat : Nat) : Int)
  omega
theorem st0_m {M M' : fmM} {D : dD} (hD : dOk D) (h : sdOk M M' D) : msA (M'.1 7) D (st0 D) := by
  have h2 := hD.2.2.2.2.1
  have d8 := hD.1
  obtain ⟨h7, h9, hz⟩ := h.2.1
  refine ⟨by rw [hz 0 (Or.inl rfl)]; exact z_i, by rw [hz 10 (Or.inr ⟨by decide, by decide⟩)]; exact z_i, ?_, by rw [hz 11 (Or.inr ⟨by decide, by decide⟩)]; exact z_i, by rw [hz 12 (Or.inr ⟨by decide, by decide⟩)]; exact z_i, by rw [hz 13 (Or.inr ⟨by decide, by decide⟩)]; exact z_k, fun i hi => ?_⟩
  · rw [h9]
    show D.2.2.2.2 2 = (((D.2.2.2.2 2).toNat : Nat) : Int)
    omega
  · rw [h7 i (by omega)]
    show _ = if D.2.1 i 4 = -1 then -1000 else ((0 : Nat) : Int) - D.2.1 i 4
    by_cases e : D.2.1 i 4 = -1
    · rw [if_pos e, if_neg (fun h => h.2 e)]
    · rw [if_neg e, if_pos ⟨hi, e⟩]
      omega
theorem rSt_new {M M2 M3 : fmM} {D : dD} (h : dwNew M D) (hs : stNew M D) (h2 : sdOk M3 M2 D) : rSt M M2 D := by
  have e1 : M2.1 0 32 = 0 := h2.2.2.1.2.2.1
  have e2 : M.1 0 13 = 0 := h.2.2.1.1
  have z0 : (0 : Int32).toInt = 0 := by decide
  refine ⟨⟨h.2.2.1.2.trans e1.symm, ⟨st0 D, st0_x h.1 hs, st0_m h.1 h2, st0_O h.1⟩, fun w hw => ?_⟩, e2.trans h2.2.2.1.2.2.2.2.symm, fun i hi => ?_⟩
  · rw [e1, z0] at hw
    omega
  · rw [e2, z0] at hi
    omega
theorem rSt_0 {M M2 : fmM} (hx : xInit M) (hm : mInit M2) : rSt M (m9 M2) dD0 := by
  have e1 : (m9 M2).1 0 32 = 0 := by rw [m9_k (by decide)]; exact hm.2.2.1.2.2.1
  have e2 : M.1 0 13 = 0 := by rw [hx.1 0 (by decide) (by decide)]; rfl
  have e3 : (m9 M2).1 0 34 = 0 := by rw [m9_k (by decide)]; exact hm.2.2.1.2.2.2.2
  have e46 : M.1 46 2 = 0 := by rw [hx.1 46 (by decide) (by decide)]; rfl
  have z0 : (0 : Int32).toInt = 0 := by decide
  have h7 : (m9 M2).1 7 = M2.1 7 := m9_k (by decide)
  refine ⟨⟨e46.trans e1.symm, ⟨st0 dD0, st0_x dOk_0 ⟨hx.2.1, hx.2.2.1, by rw [hx.2.2.2.1]; decide, hx.2.2.2.2.1, hx.2.2.2.2.2.1, hx.2.2.2.2.2.2, fun i h => (by cases h), by rw [hx.1 0 (by decide) (by decide)]; rfl⟩, by rw [h7]; exact st0_m dOk_0 hm, st0_O dOk_0⟩, fun w hw => ?_⟩, e2.trans e3.symm, fun i hi => ?_⟩
  · rw [e1, z0] at hw
    omega
  · rw [e2, z0] at hi
    omega
end
-- P 18yf
section
-- WORKS DONE, on both sides
theorem spSt_z {tx : tX} {l : Nat} : ∀ (f md o b p : Nat) (ss : tS) (q : Nat), spSt tx l f md o b p = .inr (ss, q) → ∀ s ∈ ss, s.1 = 3 → s.2.1 = 0 := by
  intro f
  induction f with
  | zero => intro md o b p ss q h; cases md <;> cases h
  | succ f ih =>
    intro md o b p ss q h
    cases md with
    | zero =>
      have h : spOneS tx l (fun q => spSt tx l f 1 (o + 1) (b + 1) q) o b p = .inr (ss, q) := h
      unfold spOneS at h
      split at h
      · cases h
      · rename_i k hk
        split at h
        · split at h
          · cases h
          · unfold spAg at h
            obtain ⟨v, q1, e1, h⟩ := spBind_ok h
            obtain ⟨u2, q2, e2, h⟩ := spBind_ok h
            obtain ⟨s3, q3, e3, h⟩ := spBind_ok h
            obtain ⟨u4, q4, e4, h⟩ := spBind_ok h
            obtain ⟨u5, q5, e5, h⟩ := spBind_ok h
            cases h
            intro s hs h3
            rcases List.mem_cons.mp hs with rfl | hs
            · exact absurd (show (4 : Nat) = 3 from h3) (by decide)
            · exact ih _ _ _ _ _ _ e3 s hs h3
        · split at h
          · unfold spWk at h
            obtain ⟨u2, q2, e2, h⟩ := spBind_ok h
            cases h
            intro s hs h3
            rcases List.mem_cons.mp hs with rfl | hs
            · rfl
            · cases hs
          · rename_i h4 hn3
            unfold spSi at h
            obtain ⟨v, q1, e1, h⟩ := spBind_ok h
            obtain ⟨u2, q2, e2, h⟩ := spBind_ok h
            cases h
            intro s hs h3
            rcases List.mem_cons.mp hs with rfl | hs
            · exact absurd h3 hn3
            · cases hs
    | succ md =>
      have h : (if tx p = 93 then .inr ([], p) else spBind (spSt tx l f 0 o b p) fun ss q => spBind (spSt tx l f 1 o (b + ss.length) (sk tx q)) fun ts q => .inr (ss ++ ts, q)) = (.inr (ss, q) : tR tS) := h
      split at h
      · cases h
        intro s hs
        cases hs
      · obtain ⟨s1, q1, e1, h⟩ := spBind_ok h
        obtain ⟨s2, q2, e2, h⟩ := spBind_ok h
        cases h
        intro s hs h3
        rcases List.mem_append.mp hs with hs | hs
        · exact ih _ _ _ _ _ _ e1 s hs h3
        · exact ih _ _ _ _ _ _ e2 s hs h3
theorem wkL_z {tx : tX} {n l : Nat} : ∀ (f b p : Nat) (ss : tS), wkL tx n l f b p = .inr ss → ∀ s ∈ ss, s.1 = 3 → s.2.1 = 0 := by
  intro f
  induction f with
  | zero => intro b p ss h; cases h
  | succ f ih =>
    intro b p ss h
    simp only [wkL] at h
    split at h
    · cases h
      intro s hs
      cases hs
    · split at h
      · cases h
      · rename_i s1 q1 e1
        split at h
        · cases h
        · rename_i s2 e2
          cases h
          intro s hs h3
          rcases List.mem_append.mp hs with hs | hs
          · exact spSt_z _ _ _ _ _ _ _ e1 s hs h3
          · exact ih _ _ _ e2 s hs h3
theorem spWork_nu {tx : tX} {n : Nat} {D : dD} {ss : tS} (ht : tOk tx n) (hn : n ≤ 150) (hD : D.1 ≤ 8) (h : spWork tx n D.1 = .inr ss) : nuO D ss ∧ ss.length ≤ 75 := by
  have hs0 : sk tx 0 ≤ n := sp_le tB_1 ht (Nat.zero_le _)
  have g := wkL_ok ht 700 0 (sk tx 0) ss hs0 h
  refine ⟨⟨by omega, fun s hs => ?_⟩, by omega⟩
  obtain ⟨i, hi, e⟩ := List.getElem_of_mem hs
  have g1 := g.1 i s (by rw [List.getElem?_eq_getElem hi, e])
  refine ⟨g1.2.1, ?_⟩
  by_cases h3 : s.1 < 3
  · have := g1.2.1 h3
    omega
  · by_cases h4 : s.1 = 4
    · exact g1.2.2.1 h4
    · have h0 := wkL_z 700 0 (sk tx 0) ss h s hs (by have := g1.1; omega)
      omega
/-- what a work leaves on the first side: w works were there -/
def wkK (w : Nat) (M M' : fmM) : Prop := (∀ k, (2 ≤ k ∧ k ≤ 27 ∧ k ≠ 26) ∨ (49 ≤ k ∧ k < 190 ∧ k ≠ 50 + w ∧ k ≠ 66 + w) → ∀ j, M'.1 k j = M.1 k j ∧ M'.2 k j = M.2 k j) ∧ M'.1 0 13 = M.1 0 13 ∧ smS (50 + w) (66 + w) 47 48 M M' ∧ M'.1 46 2 = M.1 46 2 + 1
theorem rd_k {M : fmM} {nn : Int32} {k : Nat} (h1 : k ≠ 1) (h2 : k ≠ 28) : (rdM (opM M nn)).1 k = M.1 k := by
  unfold rdM opM
  rw [fmI_k _ _ h2, fmI_k _ _ h2, fmI_k _ _ h2, fmI_k _ _ h2, fmI_k _ _ h1, fmI_k _ _ h1, fmI_k _ _ h1, fmI_k _ _ h1, fmI_k _ _ h1]
theorem wo_38 {M M' : fmM} {nn : Int32} (h : wFr 0 (rdM (opM M nn)) M') : ∀ k, k ≠ 1 → ¬ (28 ≤ k ∧ k ≤ 31) → ∀ j, M'.1 k j = M.1 k j ∧ M'.2 k j = M.2 k j := fun k h1 h2 j => ⟨by rw [h.1 k j h1 (by omega) (by omega), rd_k h1 (by omega)], h.2.1 k j h1 h2⟩
theorem wo_K {M M38 M59 M86 : fmM} {nn x y : Int32} {w : Nat} (hw : w < 16) (f38 : wFr 0 (rdM (opM M nn)) M38) (c59 : cpR (50 + w) (66 + w) 47 48 M38 M59) (f86 : pFr (fmI M59 46 2 (M38.1 46 2 + 1)) M86) : wkK w M (fmI (fmI M86 0 14 x) 34 5 y) := by
  have e38 := wo_38 f38
  have e86 : ∀ k, k ≠ 0 → k ≠ 26 → k ≠ 28 → k ≠ 34 → k ≠ 46 → k ≠ 47 → k ≠ 48 → ∀ j, (fmI (fmI M86 0 14 x) 34 5 y).1 k j = M59.1 k j ∧ (fmI (fmI M86 0 14 x) 34 5 y).2 k j = M59.2 k j := fun k a b c d e f g j => ⟨by rw [fmI_k _ _ d, fmI_k _ _ a, f86.1 k j b c f g, fmI_k _ _ e], f86.2 k j f⟩
  refine ⟨fun k hk j => ?_, ?_, ?_, ?_⟩
  · have h1 := e86 k (by omega) (by omega) (by omega) (by omega) (by omega) (by omega) (by omega) j
    have h2 := e38 k (by omega) (by omega) j
    exact ⟨h1.1.trans ((c59.2.1 k j (by omega) (by omega)).trans h2.1), h1.2.trans ((c59.2.2 k j (by omega)).trans h2.2)⟩
  · rw [fmI_k _ _ (by decide), fmI_j _ _ (by decide), f86.1 0 13 (by decide) (by decide) (by decide) (by decide), fmI_k _ _ (by decide), c59.2.1 0 13 (by omega) (by omega)]
    exact (e38 0 (by decide) (by decide) 13).1
  · exact (c59.1.src (fun j => (e38 47 (by decide) (by decide) j).1) (fun j => (e38 48 (by decide) (by decide) j).1) (e38 47 (by decide) (by decide) 6).2).fr (fun j => (e86 _ (by omega) (by omega) (by omega) (by omega) (by omega) (by omega) (by omega) j).1) (fun j => (e86 _ (by omega) (by omega) (by omega) (by omega) (by omega) (by omega) (by omega) j).1) (e86 _ (by omega) (by omega) (by omega) (by omega) (by omega) (by omega) (by omega) 6).2
  · rw [fmI_k _ _ (by decide), fmI_k _ _ (by decide), f86.1 46 2 (by decide) (by decide) (by decide) (by decide), fmI_s, (e38 46 (by decide) (by decide) 2).1]
/-- told, law and state, ahead of the steps -/
theorem wo_A {M M38 M59 : fmM} {D : dD} {cs : tC} {S : aS} {nn : Int32} {w : Nat} (hX : xdw 3 M D) (hL : lwX M cs) (hs : xst M D S) (ho : stO D S) (f38 : wFr 0 (rdM (opM M nn)) M38) (c59 : cpR (50 + w) (66 + w) 47 48 M38 M59) : xAll (fmI M59 46 2 (M38.1 46 2 + 1)) D cs (S, 0, 0, 0) := by
  have e38 := wo_38 f38
  have e59 : ∀ k, k < 49 → k ≠ 1 → k ≠ 46 → ¬ (28 ≤ k ∧ k ≤ 31) → ∀ j, (fmI M59 46 2 (M38.1 46 2 + 1)).1 k j = M.1 k j ∧ (fmI M59 46 2 (M38.1 46 2 + 1)).2 k j = M.2 k j := fun k a b c d j => ⟨by rw [fmI_k _ _ c, c59.2.1 k j (by omega) (by omega)]; exact (e38 k b d j).1, (c59.2.2 k j (by omega)).trans (e38 k b d j).2⟩
  have e28 : ∀ j, j = 4 ∨ j = 5 ∨ j = 6 → (fmI M59 46 2 (M38.1 46 2 + 1)).1 28 j = 0 := fun j hj => by
    rw [fmI_k _ _ (by decide), c59.2.1 28 j (by omega) (by omega), f38.1 28 j (by decide) (by omega) (by omega)]
    rcases hj with rfl | rfl | rfl <;> rfl
  refine ⟨hX.of (fun k j a b => (e59 k (by omega) (by omega) (by omega) (by omega) j).1), hL.f (e59 23 (by decide) (by decide) (by decide) (by decide) 3).1 (fun i => (e59 24 (by decide) (by decide) (by decide) (by decide) i).1), hs.of (fun k j a => (e59 k (by omega) (by omega) (by omega) (by omega) j).1) (e59 47 (by decide) (by decide) (by decide) (by decide) 6).2, ho, by rw [e28 4 (Or.inl rfl)]; exact z_i, by rw [e28 5 (Or.inr (Or.inl rfl))]; exact z_i, by rw [e28 6 (Or.inr (Or.inr rfl))]; exact z_i, Nat.le_refl _, Nat.zero_le _⟩
/-- a work, all of it -/
def goW (D : dD) (cs : tC) (ss : tS) (S : aS) : gR := goL D cs 201 0 ss (S, 0, 0, 0)
theorem seg_0 {ss : tS} : seg ss 0 ss := fun i hi => by rw [Nat.zero_add]
set_option maxRecDepth 20000 in
theorem c_xwoS {M : fmM} {Q : fmR → fmM → Prop} {T : Nat → tX} {nn : Int32} {D : dD} {cs : tC} {S : aS} {w : Nat} (hI : scInv Tx invX M) (hT : txF M T) (hD : dOk D) (hX : xdw 3 M D) (hL : lwX M cs) (hs : xst M D S) (ho : stO D S) (hw : (M.1 46 2).toInt = (w : Int)) (h16 : w ≤ 16) (hrf : ¬ txP nn 150 (M.1 1 1).toInt → Q (.inr fmIAE) (fmI M 0 16 (M.1 0 16 + 1))) (hful : txP nn 150 (M.1 1 1).toInt → w = 16 → Q (.inl (some (.int (-20)))) (opM M nn)) (hbad : ∀ (n k a : Nat) (r : Int32) (M' : fmM), nn.toInt = (n : Int) → txP nn 150 (M.1 1 1).toInt → w < 16 → spWork (T n) n D.1 = .inl (k, a) → r.toInt = (k : Int) - 10 → wFr 0 (rdM (opM M nn)) M' → Q (.inl (some (.int r))) M') (hok : ∀ (n : Nat) (ss : tS) (r : Int32) (M' : fmM), nn.toInt = (n : Int) → txP nn 150 (M.1 1 1).toInt → w < 16 → spWork (T n) n D.1 = .inr ss → r.toInt = ((goW D cs ss S).2.2.1 : Int) → xst M' D (goW D cs ss S).1 → stO D (goW D cs ss S).1 → (M'.1 0 14).toInt = ((goW D cs ss S).2.2.2 : Int) → wkK w M M' → Q (.inl (some (.int r))) M') : pvGood Tx 214 qX10_work [.ref 0, .int nn] M Q := by
  refine pvGood_of (Nat.le_of_ble_eq_true rfl) ?_
  show pvEv Tx 214 qX10_work 0 [some (.ref 0), some (.int nn)] [] M Q
  refine pv_aloadn (pc := 0) (n := 0) 0 rfl rfl (fm_dec dtX10_work 0 rfl) ?_
  refine pv_iloadn (pc := 1) (n := 1) 1 rfl rfl (fm_dec dtX10_work 1 rfl) ?_
  refine pv_sipush (pc := 2) (v := 150) (by decide) (fm_dec dtX10_work 2 rfl) ?_
  refine pv_invV2 (k := 0) (d' := 1) (pc := 5) pcv_X10_108 (by decide) rfl (Nat.le_of_ble_eq_true rfl) (by decide) (fm_dec dtX10_work 3 rfl) ?_
  refine c_openT (fun h5 => ?_) (fun h5 => ?_)
  · refine pv_then0 ?_
    have h56 : nn.toInt ≤ 150 := h5.2.1
    obtain ⟨n, hn⟩ : ∃ n : Nat, nn.toInt = (n : Int) := ⟨nn.toInt.toNat, by have := h5.1; omega⟩
    have hn9 : n ≤ 150 := (by omega)
    have hI5 := inv_open (n := nn) hI h5.1 (by omega)
    have hT9 := hT n (by have := h5.2.2; omega)
    have hS := op_S hn hT9.1 hT9.2
    have hf5 : (opM M nn).1 1 4 = 0 := rfl
    have z16 : (16 : Int32).toInt = 16 := (by decide)
    have hw5 : ((opM M nn).1 46 2).toInt = (w : Int) := hw
    refine pv_aloadn (pc := 8) (n := 0) 0 rfl rfl (fm_dec dtX10_work 4 rfl) ?_
    refine pv_getR (k := 0) (j := 9) (ci := 10) (pc := 9) 46 rfl (by decide) pfl_X10_75 (by decide) rfl (by decide) (fm_dec dtX10_work 5 rfl) ?_
    refine pv_getI (k := 46) (j := 2) (ci := 5) (pc := 12) pfl_X10_126 (by decide) rfl (by decide) (fm_dec dtX10_work 6 rfl) ?_
    refine pv_bipush (pc := 15) (v := 16) (by decide) (fm_dec dtX10_work 7 rfl) ?_
    refine pv_icmp_lt (pc := 17) 23 (by decide) (fm_dec dtX10_work 8 rfl) (fun hc17 => ?_) (fun hc17 => ?_)
    · have hlt : w < 16 := (by have h9 := hc17; rw [sc_lt] at h9; omega)
      refine pv_aloadn (pc := 23) (n := 0) 0 rfl rfl (fm_dec dtX10_work 11 rfl) ?_
      refine pv_getR (k := 0) (j := 5) (ci := 10) (pc := 24) 28 rfl (by decide) pfl_X10_43 (by decide) rfl (by decide) (fm_dec dtX10_work 12 rfl) ?_
      refine pv_aloadn (pc := 27) (n := 0) 0 rfl rfl (fm_dec dtX10_work 13 rfl) ?_
      refine pv_getR (k := 0) (j := 0) (ci := 10) (pc := 28) 1 rfl (by decide) pfl_X10_12 (by decide) rfl (by decide) (fm_dec dtX10_work 14 rfl) ?_
      refine pv_aloadn (pc := 31) (n := 0) 0 rfl rfl (fm_dec dtX10_work 15 rfl) ?_
      refine pv_getR (k := 0) (j := 1) (ci := 10) (pc := 32) 3 rfl (by decide) pfl_X10_19 (by decide) rfl (by decide) (fm_dec dtX10_work 16 rfl) ?_
      refine pv_getI (k := 3) (j := 9) (ci := 8) (pc := 35) pfl_X10_138 (by decide) rfl (by decide) (fm_dec dtX10_work 17 rfl) ?_
      refine pv_invV2 (k := 28) (d' := 27) (pc := 38) pcv_X10_142 (by decide) rfl (Nat.le_of_ble_eq_true rfl) (by decide) (fm_dec dtX10_work 18 rfl) ?_
      refine c_wread (M := opM M nn) (l := D.1) hX.1.1 hD.1 hS hf5 hI5 hn9 (fun M38 ss q38 e38 k38 => ?_) (fun M38 kb ab e38 b38 => ?_)  
      · refine pv_then1 ?_
        refine pv_if_ne (pc := 41) 55 (by decide) (fm_dec dtX10_work 19 rfl) (fun _ => ?_) (fun hc41 => by exfalso; revert hc41; decide)
        have hw38 : (M38.1 46 2).toInt = (w : Int) := (by rw [(wo_38 k38.2.2.2.2.2 46 (by decide) (by decide) 2).1]; exact hw)
        have hN := spWork_nu hT9.1 hn9 hD.1 e38
        obtain ⟨g9, hg9⟩ := spWork_wn e38
        refine pv_aloadn (pc := 55) (n := 0) 0 rfl rfl (fm_dec dtX10_work 26 rfl) ?_
        refine pv_getR (k := 0) (j := 9) (ci := 10) (pc := 56) 46 rfl (by decide) pfl_X10_75 (by decide) rfl (by decide) (fm_dec dtX10_work 27 rfl) ?_
        refine pv_invV0 (k := 46) (d' := 1) (pc := 59) pcv_X10_145 (by decide) rfl (Nat.le_of_ble_eq_true rfl) (by decide) (fm_dec dtX10_work 28 rfl) ?_
        refine c_keepS hw38 hlt (fun M59 c59 => ?_) 
        refine pv_then0 ?_
        have hA9 := wo_A hX hL hs ho k38.2.2.2.2.2 c59
        have hW9 : wRep (fmI M59 46 2 (M38.1 46 2 + 1)) 0 ss := (fun i c hi => by rw [fmI_k _ _ (by decide), fmI_k _ _ (by decide), fmI_k _ _ (by decide), c59.2.1 29 _ (by omega) (by omega), c59.2.1 30 _ (by omega) (by omega), c59.2.1 31 _ (by omega) (by omega)]; exact k38.2.2.2.2.1 i c hi)
        have hz9 : ((fmI M59 46 2 (M38.1 46 2 + 1)).1 28 3).toInt = ((0 + ss.length : Nat) : Int) := (by rw [fmI_k _ _ (by decide), c59.2.1 28 3 (by omega) (by omega)]; exact k38.2.2.2.1)
        refine pv_aloadn (pc := 62) (n := 0) 0 rfl rfl (fm_dec dtX10_work 29 rfl) ?_
        refine pv_getR (k := 0) (j := 5) (ci := 10) (pc := 63) 28 rfl (by decide) pfl_X10_43 (by decide) rfl (by decide) (fm_dec dtX10_work 30 rfl) ?_
        refine pv_aloadn (pc := 66) (n := 0) 0 rfl rfl (fm_dec dtX10_work 31 rfl) ?_
        refine pv_getR (k := 0) (j := 6) (ci := 10) (pc := 67) 32 rfl (by decide) pfl_X10_52 (by decide) rfl (by decide) (fm_dec dtX10_work 32 rfl) ?_
        refine pv_aloadn (pc := 70) (n := 0) 0 rfl rfl (fm_dec dtX10_work 33 rfl) ?_
        refine pv_getR (k := 0) (j := 9) (ci := 10) (pc := 71) 46 rfl (by decide) pfl_X10_75 (by decide) rfl (by decide) (fm_dec dtX10_work 34 rfl) ?_
        refine pv_getR (k := 46) (j := 0) (ci := 5) (pc := 74) 47 rfl (by decide) pfl_X10_90 (by decide) rfl (by decide) (fm_dec dtX10_work 35 rfl) ?_
        refine pv_iconst (pc := 77) (v := 0) (by decide) (fm_dec dtX10_work 36 rfl) ?_
        refine pv_aloadn (pc := 78) (n := 0) 0 rfl rfl (fm_dec dtX10_work 37 rfl) ?_
        refine pv_getR (k := 0) (j := 5) (ci := 10) (pc := 79) 28 rfl (by decide) pfl_X10_43 (by decide) rfl (by decide) (fm_dec dtX10_work 38 rfl) ?_
        refine pv_getI (k := 28) (j := 3) (ci := 9) (pc := 82) pfl_X10_148 (by decide) rfl (by decide) (fm_dec dtX10_work 39 rfl) ?_
        refine pv_iconst (pc := 85) (v := 0) (by decide) (fm_dec dtX10_work 40 rfl) ?_
        refine pv_invV5 (k := 28) (d' := (12 + 201)) (pc := 86) pcv_X10_151 (by decide) rfl (Nat.le_of_ble_eq_true rfl) (by decide) (fm_dec dtX10_work 41 rfl) ?_
        refine (xp_E (cs := cs) hD hN.1 201).go (a := 0) (o := 0) hA9 hW9 seg_0 (by omega) hg9 (by decide) (by decide) hz9 (by decide) (by show 200 - 0 < 201; decide) (fun M86 h86 f86 => ?_) 
        refine pv_then0 ?_
        refine pv_aloadn (pc := 89) (n := 0) 0 rfl rfl (fm_dec dtX10_work 42 rfl) ?_
        refine pv_aloadn (pc := 90) (n := 0) 0 rfl rfl (fm_dec dtX10_work 43 rfl) ?_
        refine pv_getR (k := 0) (j := 5) (ci := 10) (pc := 91) 28 rfl (by decide) pfl_X10_43 (by decide) rfl (by decide) (fm_dec dtX10_work 44 rfl) ?_
        refine pv_getI (k := 28) (j := 6) (ci := 9) (pc := 94) pfl_X10_155 (by decide) rfl (by decide) (fm_dec dtX10_work 45 rfl) ?_
        refine pv_putI (k := 0) (j := 14) (ci := 10) (pc := 97) pfl_X10_132 (by decide) rfl (by decide) (fm_dec dtX10_work 46 rfl) ?_
        refine pv_aloadn (pc := 100) (n := 0) 0 rfl rfl (fm_dec dtX10_work 47 rfl) ?_
        refine pv_getR (k := 0) (j := 7) (ci := 10) (pc := 101) 34 rfl (by decide) pfl_X10_61 (by decide) rfl (by decide) (fm_dec dtX10_work 48 rfl) ?_
        refine pv_invV0 (k := 34) (d' := 0) (pc := 104) pcv_X10_135 (by decide) rfl (Nat.le_of_ble_eq_true rfl) (by decide) (fm_dec dtX10_work 49 rfl) ?_
        refine c_fgt ?_
        refine pv_then0 ?_
        refine pv_aloadn (pc := 107) (n := 0) 0 rfl rfl (fm_dec dtX10_work 50 rfl) ?_
        refine pv_getR (k := 0) (j := 5) (ci := 10) (pc := 108) 28 rfl (by decide) pfl_X10_43 (by decide) rfl (by decide) (fm_dec dtX10_work 51 rfl) ?_
        refine pv_getI (k := 28) (j := 5) (ci := 9) (pc := 111) pfl_X10_158 (by decide) rfl (by decide) (fm_dec dtX10_work 52 rfl) ?_
        exact pv_ireturn (pc := 114) rfl (fm_dec dtX10_work 53 rfl) (hok n ss _ _ hn h5 hlt e38 h86.2.2.2.2.2.1 (h86.2.2.1.of (fun k j a => by rw [fmI_k _ _ (by omega), fmI_k _ _ (by omega)]) rfl) h86.2.2.2.1 (by rw [fmI_k _ _ (by decide), fmI_s]; exact h86.2.2.2.2.2.2.1) (wo_K hlt k38.2.2.2.2.2 c59 f86))
      · refine pv_then1 ?_
        refine pv_if_ne (pc := 41) 55 (by decide) (fm_dec dtX10_work 19 rfl) (fun hc41 => by exfalso; revert hc41; decide) (fun _ => ?_)
        refine pv_aloadn (pc := 44) (n := 0) 0 rfl rfl (fm_dec dtX10_work 20 rfl) ?_
        refine pv_getR (k := 0) (j := 0) (ci := 10) (pc := 45) 1 rfl (by decide) pfl_X10_12 (by decide) rfl (by decide) (fm_dec dtX10_work 21 rfl) ?_
        refine pv_getI (k := 1) (j := 4) (ci := 7) (pc := 48) pfl_X10_116 (by decide) rfl (by decide) (fm_dec dtX10_work 22 rfl) ?_
        refine pv_bipush (pc := 51) (v := 10) (by decide) (fm_dec dtX10_work 23 rfl) ?_
        refine pv_isub (pc := 53) (fm_dec dtX10_work 24 rfl) ?_
        exact pv_ireturn (pc := 54) rfl (fm_dec dtX10_work 25 rfl) (hbad n kb ab _ M38 hn h5 hlt e38 (law_r b38.1 (by have h9 : (M38.1 1 4).toInt ≤ 3 := (b38.2.2.2.1.1 1 4 (by decide)).2; have h8 := b38.1; omega)) b38.2.2.2.2)
    · refine pv_bipush (pc := 20) (v := (-20)) (by decide) (fm_dec dtX10_work 9 rfl) ?_
      exact pv_ireturn (pc := 22) rfl (fm_dec dtX10_work 10 rfl) (hful h5 (by have h9 := hc17; rw [sc_lt] at h9; omega))
  · refine pv_thenX ?_
    exact hrf h5
set_option maxRecDepth 20000 in
theorem wk_o1S {Q : fmR → fmM → Prop} {M : fmM} {nn : Int32} (hf : ¬ M.1 0 5 = 0) (hq : pvEv Tm 214 qX11_work 101 [some (.ref 0), some (.int nn)] [] M Q) : pvEv Tm 214 qX11_work 72 [some (.ref 0), some (.int nn)] [] M Q := by
  refine pv_aloadn (pc := 72) (n := 0) 0 rfl rfl (fm_dec dtX11_work 40 rfl) ?_
  refine pv_getI (k := 0) (j := 5) (ci := 11) (pc := 73) pfl_X11_117 (by decide) rfl (by decide) (fm_dec dtX11_work 41 rfl) ?_
  refine pv_if_ne (pc := 76) 101 (by decide) (fm_dec dtX11_work 42 rfl) (fun _ => ?_) (fun hc76 => by exfalso; exact hf hc76)
  exact hq
set_option maxRecDepth 20000 in
theorem wk_loopS {tx : tX} {n l : Nat} {nn : Int32} {Q : fmR → fmM → Prop} : ∀ (f b p : Nat) (M : fmM), srPre M tx n p 0 b l → (∀ a, ¬ wkL tx n l f b p = .inl (9, a)) → (∀ (M' : fmM) (ss : tS) (q : Nat), wkL tx n l f b p = .inr ss → srOk M M' tx n q b ss → pvEv Tm 214 qX11_work 101 [some (.ref 0), some (.int nn)] [] M' Q) → (∀ (M' : fmM) (k a : Nat), wkL tx n l f b p = .inl (k, a) → srBad M M' tx n k a b → pvEv Tm 214 qX11_work 101 [some (.ref 0), some (.int nn)] [] M' Q) → pvEv Tm 214 qX11_work 72 [some (.ref 0), some (.int nn)] [] M Q := by
  intro f
  induction f with
  | zero => intro b p M hP hne hok hbad; exact absurd rfl (hne 0)
  | succ f ih =>
    intro b p M hP hne hok hbad
    refine pv_aloadn (pc := 72) (n := 0) 0 rfl rfl (fm_dec dtX11_work 40 rfl) ?_
    refine pv_getI (k := 0) (j := 5) (ci := 11) (pc := 73) pfl_X11_117 (by decide) rfl (by decide) (fm_dec dtX11_work 41 rfl) ?_
    refine pv_if_ne (pc := 76) 101 (by decide) (fm_dec dtX11_work 42 rfl) (fun hc76 => by exfalso; exact hc76 hP.2.1) (fun _ => ?_)
    refine pv_aloadn (pc := 79) (n := 0) 0 rfl rfl (fm_dec dtX11_work 43 rfl) ?_
    refine pv_getI (k := 0) (j := 4) (ci := 11) (pc := 80) pfl_X11_110 (by decide) rfl (by decide) (fm_dec dtX11_work 44 rfl) ?_
    refine pv_aloadn (pc := 83) (n := 0) 0 rfl rfl (fm_dec dtX11_work 45 rfl) ?_
    refine pv_getI (k := 0) (j := 2) (ci := 11) (pc := 84) pfl_X11_107 (by decide) rfl (by decide) (fm_dec dtX11_work 46 rfl) ?_
    refine pv_icmp_ge (pc := 87) 101 (by decide) (fm_dec dtX11_work 47 rfl) (fun hc87 => ?_) (fun hc87 => ?_)
    · exact hok M [] p (wkL_0 (by rw [sc_le, hP.1.1, hP.1.2.1] at hc87; omega)) (srOk.nil hP)
    · have hpn : ¬ n ≤ p := (by rw [sc_le, hP.1.1, hP.1.2.1] at hc87; omega)
      refine pv_aloadn (pc := 90) (n := 0) 0 rfl rfl (fm_dec dtX11_work 48 rfl) ?_
      refine pv_invV0 (k := 0) (d' := (5 + (6 - 0))) (pc := 91) pcv_X11_253 (by decide) rfl (Nat.le_of_ble_eq_true rfl) (by omega) (fm_dec dtX11_work 49 rfl) ?_
      refine (rs_all 400).1 0 b p M _ hP (fun h9 => hne 0 (wkL_1 hpn h9)) (fun M91 ss q91 e91 k91 => ?_) (fun Mb kb ab eb hB => ?_)  
      · refine pv_then0 ?_
        refine pv_aloadn (pc := 94) (n := 0) 0 rfl rfl (fm_dec dtX11_work 50 rfl) ?_
        refine pv_invV0 (k := 0) (d' := 1) (pc := 95) pcv_X11_123 (by decide) rfl (Nat.le_of_ble_eq_true rfl) (by omega) (fm_dec dtX11_work 51 rfl) ?_
        refine r_blanks k91.1 k91.2.1 (fun M95 k95 => ?_)
        refine pv_then0 ?_
        refine pv_goto (pc := 98) 72 (by decide) (fm_dec dtX11_work 52 rfl) ?_
        have hl := spSt_len hP.1.2.2.2.1 _ _ _ _ _ _ _ hP.1.2.2.1 e91
        refine ih (b + ss.length) (sk tx q91) M95 (hP.next k91 hl.1 k95) (fun a h9 => hne a (wkL_2 hpn e91 h9)) (fun M9 ts q e h => hok M9 _ q (wkL_3 hpn e91 e) (k91.app k95.2.2 (k95.2.2.2.1 8 (by decide) (by decide) (by decide)) h)) (fun M9 k a e h => hbad M9 k a (wkL_2 hpn e91 e) ⟨h.1, h.2.1, h.2.2.1, h.2.2.2.1, (k91.2.2.2.2.2.rd k95.2.2).trans h.2.2.2.2 (by omega)⟩)
      · refine pv_then0 ?_
        obtain ⟨qb, hSb⟩ := hB.1
        refine pv_aloadn (pc := 94) (n := 0) 0 rfl rfl (fm_dec dtX11_work 50 rfl) ?_
        refine pv_invV0 (k := 0) (d' := 1) (pc := 95) pcv_X11_123 (by decide) rfl (Nat.le_of_ble_eq_true rfl) (by omega) (fm_dec dtX11_work 51 rfl) ?_
        refine c_blanks hSb (fun x95 hx95 => ?_)
        refine pv_then0 ?_
        refine pv_goto (pc := 98) 72 (by decide) (fm_dec dtX11_work 52 rfl) ?_
        exact wk_o1S (srBad.nz (hB.bl hSb hx95)) (hbad _ kb ab (wkL_1 hpn eb) (hB.bl hSb hx95))
set_option maxRecDepth 20000 in
theorem wk_e1S {Q : fmR → fmM → Prop} {M : fmM} {nn : Int32} (hf : ¬ M.1 0 5 = 0) (hq : Q (.inl (some (.int (M.1 0 5 - 10)))) (fmI M 0 3 (M.1 0 6))) : pvEv Tm 214 qX11_work 101 [some (.ref 0), some (.int nn)] [] M Q := by
  refine pv_aloadn (pc := 101) (n := 0) 0 rfl rfl (fm_dec dtX11_work 53 rfl) ?_
  refine pv_getI (k := 0) (j := 5) (ci := 11) (pc := 102) pfl_X11_117 (by decide) rfl (by decide) (fm_dec dtX11_work 54 rfl) ?_
  refine pv_if_eq (pc := 105) 113 (by decide) (fm_dec dtX11_work 55 rfl) (fun hc105 => by exfalso; exact hf hc105) (fun _ => ?_)
  refine pv_aloadn (pc := 108) (n := 0) 0 rfl rfl (fm_dec dtX11_work 56 rfl) ?_
  refine pv_invV0 (k := 0) (d' := 0) (pc := 109) pcv_X11_187 (by decide) rfl (Nat.le_of_ble_eq_true rfl) (by omega) (fm_dec dtX11_work 57 rfl) ?_
  refine c_ends ?_
  refine pv_then1 ?_
  exact pv_ireturn (pc := 112) rfl (fm_dec dtX11_work 58 rfl) hq
theorem lwM.f2 {M M' : fmM} {cs : tC} (h : lwM M cs) (e : M'.1 0 17 = M.1 0 17) (e2 : ∀ k j, 91 ≤ k → k < 251 → M'.1 k j = M.1 k j) : lwM M' cs := ⟨by rw [e]; exact h.1, h.2.1, h.2.2.1, fun i c hi => by
  have hl : i < cs.length := (List.getElem?_eq_some_iff.mp hi).1
  have h9 := h.2.1
  rw [e2 _ _ (by omega) (by omega), e2 _ _ (by omega) (by omega)]
  exact h.2.2.2 i c hi⟩
set_option maxRecDepth 20000 in
theorem wk_sS {Q : fmR → fmM → Prop} {M : fmM} {nn : Int32} {ss : tS} {w g9 : Nat} {D : dD} {cs : tC} {S : aS} (hf : M.1 0 5 = 0) (hD : dOk D) (hN : nuO D ss) (hg9 : wnL g9 6 0 ss) (hY : mdw M D) (hL : lwM M cs) (hd : cs = [] ∨ dpB 23 0 cs = some 1) (hs : mst M D S) (ho : stO D S) (hw : (M.1 0 32).toInt = w) (hw16 : w < 16) (hR : stRep M 0 ss) (hn : ss.length ≤ 80) (h26 : (M.1 0 26).toInt = (ss.length : Int)) (hq : ∀ (M3 M' : fmM), mAll M' D cs (goW D cs ss S) → cpB 7 (503 + w) 14 (fmI M 0 3 (-1)) M3 → nFr (wkM M3) M' → Q (.inl (some (.int (M'.1 0 37)))) M') : pvEv Tm 214 qX11_work 101 [some (.ref 0), some (.int nn)] [] M Q := by
  refine pv_aloadn (pc := 101) (n := 0) 0 rfl rfl (fm_dec dtX11_work 53 rfl) ?_
  refine pv_getI (k := 0) (j := 5) (ci := 11) (pc := 102) pfl_X11_117 (by decide) rfl (by decide) (fm_dec dtX11_work 54 rfl) ?_
  refine pv_if_eq (pc := 105) 113 (by decide) (fm_dec dtX11_work 55 rfl) (fun _ => ?_) (fun hc105 => by exfalso; exact hc105 hf)
  refine pv_aloadn (pc := 113) (n := 0) 0 rfl rfl (fm_dec dtX11_work 59 rfl) ?_
  refine pv_iconst (pc := 114) (v := (-1)) (by decide) (fm_dec dtX11_work 60 rfl) ?_
  refine pv_putI (k := 0) (j := 3) (ci := 11) (pc := 115) pfl_X11_9 (by decide) rfl (by decide) (fm_dec dtX11_work 61 rfl) ?_
  refine pv_aloadn (pc := 118) (n := 0) 0 rfl rfl (fm_dec dtX11_work 62 rfl) ?_
  refine pv_getR (k := 0) (j := 27) (ci := 11) (pc := 119) 7 rfl (by decide) pfl_X11_61 (by decide) rfl (by decide) (fm_dec dtX11_work 63 rfl) ?_
  refine pv_aloadn (pc := 122) (n := 0) 0 rfl rfl (fm_dec dtX11_work 64 rfl) ?_
  refine pv_getR (k := 0) (j := 29) (ci := 11) (pc := 123) 25 rfl (by decide) pfl_X11_67 (by decide) rfl (by decide) (fm_dec dtX11_work 65 rfl) ?_
  refine pv_aloadn (pc := 126) (n := 0) 0 rfl rfl (fm_dec dtX11_work 66 rfl) ?_
  refine pv_getI (k := 0) (j := 32) (ci := 11) (pc := 127) pfl_X11_200 (by decide) rfl (by decide) (fm_dec dtX11_work 67 rfl) ?_
  refine pv_aald (k := 25) (n := 16) (r := (503 + w)) (pc := 130) (by decide) (Or.inr (Or.inr rfl)) rfl (rw_before.inb hw hw16) (rw_before.at hw hw16) (rw_before.2.2.2 _ hw16).2.1 (fm_dec dtX11_work 68 rfl) ?_
  refine pv_iS2 (d' := 0) (pc := 131) pcs_X11_323 (Nat.le_of_ble_eq_true rfl) (by omega) (fm_dec dtX11_work 69 rfl) ?_
  refine c_mcp ro_7 (ro_b w hw16) (by omega) (fun M131 c131 => ?_) 
  refine pv_then0 ?_
  refine pv_aloadn (pc := 134) (n := 0) 0 rfl rfl (fm_dec dtX11_work 70 rfl) ?_
  refine pv_dup (pc := 135) rfl (fm_dec dtX11_work 71 rfl) ?_
  refine pv_getI (k := 0) (j := 32) (ci := 11) (pc := 136) pfl_X11_200 (by decide) rfl (by decide) (fm_dec dtX11_work 72 rfl) ?_
  refine pv_iconst (pc := 139) (v := 1) (by decide) (fm_dec dtX11_work 73 rfl) ?_
  refine pv_iadd (pc := 140) (fm_dec dtX11_work 74 rfl) ?_
  refine pv_putI (k := 0) (j := 32) (ci := 11) (pc := 141) pfl_X11_200 (by decide) rfl (by decide) (fm_dec dtX11_work 75 rfl) ?_
  refine pv_aloadn (pc := 144) (n := 0) 0 rfl rfl (fm_dec dtX11_work 76 rfl) ?_
  refine pv_iconst (pc := 145) (v := 0) (by decide) (fm_dec dtX11_work 77 rfl) ?_
  refine pv_putI (k := 0) (j := 36) (ci := 11) (pc := 146) pfl_X11_310 (by decide) rfl (by decide) (fm_dec dtX11_work 78 rfl) ?_
  refine pv_aloadn (pc := 149) (n := 0) 0 rfl rfl (fm_dec dtX11_work 79 rfl) ?_
  refine pv_iconst (pc := 150) (v := 0) (by decide) (fm_dec dtX11_work 80 rfl) ?_
  refine pv_putI (k := 0) (j := 37) (ci := 11) (pc := 151) pfl_X11_320 (by decide) rfl (by decide) (fm_dec dtX11_work 81 rfl) ?_
  refine pv_aloadn (pc := 154) (n := 0) 0 rfl rfl (fm_dec dtX11_work 82 rfl) ?_
  refine pv_iconst (pc := 155) (v := 0) (by decide) (fm_dec dtX11_work 83 rfl) ?_
  refine pv_putI (k := 0) (j := 33) (ci := 11) (pc := 156) pfl_X11_203 (by decide) rfl (by decide) (fm_dec dtX11_work 84 rfl) ?_
  show pvEv Tm 214 qX11_work 159 _ _ (wkM M131) Q
  have ek : ∀ k j, k ≠ 0 → k < 503 → (wkM M131).1 k j = M.1 k j := fun k j h0 h1 => (by unfold wkM; rw [fmI_k _ _ h0, fmI_k _ _ h0, fmI_k _ _ h0, fmI_k _ _ h0, c131.2.1 k j (by omega), fmI_k _ _ h0])
  have e0 : ∀ j, j ≠ 3 → j ≠ 32 → j ≠ 33 → j ≠ 36 → j ≠ 37 → (wkM M131).1 0 j = M.1 0 j := fun j a b c d e => (by unfold wkM; rw [fmI_j _ _ c, fmI_j _ _ e, fmI_j _ _ d, fmI_j _ _ b, c131.2.1 0 j (by omega), fmI_j _ _ a])
  have hA9 : mAll (wkM M131) D cs (S, 0, 0, 0) := ⟨hY.k hD (fun k j a => ek k j (by omega) (by omega)), hL.f2 (e0 17 (by decide) (by decide) (by decide) (by decide) (by decide)) (fun k j a b => ek k j (by omega) (by omega)), hd, hs.of (fun j => ek 7 j (by decide) (by decide)), ho, z_i, z_i, z_i, Nat.le_refl _, Nat.zero_le _⟩
  have hR9 : stRep (wkM M131) 0 ss := hR.of (by omega) (fun k j a b => ek k j (by omega) b)
  have hz9 : ((wkM M131).1 0 26).toInt = ((0 + ss.length : Nat) : Int) := (by rw [e0 26 (by decide) (by decide) (by decide) (by decide) (by decide), Nat.zero_add]; exact h26)
  refine pv_aloadn (pc := 159) (n := 0) 0 rfl rfl (fm_dec dtX11_work 85 rfl) ?_
  refine pv_iconst (pc := 160) (v := 0) (by decide) (fm_dec dtX11_work 86 rfl) ?_
  refine pv_aloadn (pc := 161) (n := 0) 0 rfl rfl (fm_dec dtX11_work 87 rfl) ?_
  refine pv_getI (k := 0) (j := 26) (ci := 11) (pc := 162) pfl_X11_250 (by decide) rfl (by decide) (fm_dec dtX11_work 88 rfl) ?_
  refine pv_invV2 (k := 0) (d' := (12 + 201)) (pc := 165) pcv_X11_313 (by decide) rfl (Nat.le_of_ble_eq_true rfl) (by omega) (fm_dec dtX11_work 89 rfl) ?_
  refine (mg_E (cs := cs) hD hN hn 201).go (M := wkM M131) (a := 0) (l := ss) (g := g9) (d := 6) hA9 hR9 seg_0 (by omega) hg9 (by decide) hz9 (by show 200 - 0 < 201; decide) (fun M165 h165 f165 => ?_) 
  refine pv_then0 ?_
  refine pv_aloadn (pc := 168) (n := 0) 0 rfl rfl (fm_dec dtX11_work 90 rfl) ?_
  refine pv_getI (k := 0) (j := 37) (ci := 11) (pc := 169) pfl_X11_320 (by decide) rfl (by decide) (fm_dec dtX11_work 91 rfl) ?_
  exact pv_ireturn (pc := 172) rfl (fm_dec dtX11_work 92 rfl) (hq M131 M165 h165 c131 f165)
/-- what reading a work leaves on the other side -/
def woF (M M' : fmM) : Prop := (∀ k j, k ≠ 0 → ¬ (423 ≤ k ∧ k < 503) → M'.1 k j = M.1 k j) ∧ (∀ j, j = 17 ∨ (31 ≤ j ∧ j ≤ 34) → M'.1 0 j = M.1 0 j) ∧ M'.2 = M.2 ∧ M'.1 0 0 = 0
theorem woF.p3 {M M' : fmM} {x : Int32} (h : woF M M') : woF M (fmI M' 0 3 x) := ⟨fun k j a b => by rw [fmI_k _ _ a]; exact h.1 k j a b, fun j a => by rw [fmI_j _ _ (by omega)]; exact h.2.1 j a, h.2.2.1, by rw [fmI_j _ _ (by decide)]; exact h.2.2.2⟩
theorem wo_F {M M1 M' : fmM} {tx : tX} {n : Nat} (h : stOk (fmI M 0 0 0) M1 tx n) (h2 : srFr 0 (fmI M1 0 26 0) M') : woF M M' := by
  refine ⟨fun k j a b => ?_, fun j a => ?_, ?_, ?_⟩
  · rw [h2.1 k j a (by omega), fmI_k _ _ a]
    exact st_k h a
  · rw [h2.2.1 j (by omega) (by omega) (by omega) (by omega) (by omega), fmI_j _ _ (by omega)]
    exact st_j h (by omega)
  · rw [h2.2.2]
    exact h.2.2.2.2.2.2.2.2.trans rfl
  · rw [h2.2.1 0 (by decide) (by decide) (by decide) (by decide) (by decide), fmI_j _ _ (by decide), h.2.2.2.2.2.2.2.1 0 (by decide) (by decide) (by decide) (by decide) (by decide) (by decide) (by decide), fmI_s]
/-- and what doing it leaves: w works were there -/
def woK (w : Nat) (M M' : fmM) : Prop := (∀ k j, k ≠ 0 → k ≠ 5 → k ≠ 6 → k ≠ 7 → k ≠ 503 + w → ¬ (423 ≤ k ∧ k < 503) → M'.1 k j = M.1 k j) ∧ (∀ j, j < 14 → M'.1 (503 + w) j = M.1 7 j) ∧ M'.1 0 32 = M.1 0 32 + 1 ∧ M'.1 0 34 = M.1 0 34 ∧ M'.1 0 31 = M.1 0 31 ∧ M'.1 0 17 = M.1 0 17 ∧ M'.1 0 0 = 0
theorem wo_M {M M2 M3 M' : fmM} {w : Nat} (hw : w < 16) (h : woF M M2) (c : cpB 7 (503 + w) 14 (fmI M2 0 3 (-1)) M3) (f : nFr (wkM M3) M') : woK w M M' := by
  have e3 : ∀ k j, k ≠ 0 → (wkM M3).1 k j = M3.1 k j := fun k j a => by
    unfold wkM
    rw [fmI_k _ _ a, fmI_k _ _ a, fmI_k _ _ a, fmI_k _ _ a]
  have e0 : ∀ j, j = 17 ∨ j = 31 ∨ j = 34 → (wkM M3).1 0 j = M2.1 0 j := fun j a => by
    unfold wkM
    rw [fmI_j _ _ (by omega), fmI_j _ _ (by omega), fmI_j _ _ (by omega), fmI_j _ _ (by omega), c.2.1 0 j (by omega), fmI_j _ _ (by omega)]
  refine ⟨fun k j a b d e g i => ?_, fun j hj => ?_, ?_, ?_, ?_, ?_, ?_⟩
  · rw [f.1 k j a b d e, e3 k j a, c.2.1 k j (by omega), fmI_k _ _ a]
    exact h.1 k j a i
  · rw [f.1 _ j (by omega) (by omega) (by omega) (by omega), e3 _ j (by omega), c.1 j hj, fmI_k _ _ (by decide)]
    exact h.1 7 j (by decide) (by decide)
  · rw [f.2.1 32 (by decide) (by decide) (by decide)]
    unfold wkM
    rw [fmI_j _ _ (by decide), fmI_j _ _ (by decide), fmI_j _ _ (by decide), fmI_s, c.2.1 0 32 (by omega), fmI_j _ _ (by decide), h.2.1 32 (by decide)]
  · rw [f.2.1 34 (by decide) (by decide) (by decide), e0 34 (by decide)]
    exact h.2.1 34 (by decide)
  · rw [f.2.1 31 (by decide) (by decide) (by decide), e0 31 (by decide)]
    exact h.2.1 31 (by decide)
  · rw [f.2.1 17 (by decide) (by decide) (by decide), e0 17 (by decide)]
    exact h.2.1 17 (by decide)
  · rw [f.2.1 0 (by decide) (by decide) (by decide)]
    unfold wkM
    rw [fmI_j _ _ (by decide), fmI_j _ _ (by decide), fmI_j _ _ (by decide), fmI_j _ _ (by decide), c.2.1 0 0 (by omega), fmI_j _ _ (by decide)]
    exact h.2.2.2
/-- a work, on both sides -/
theorem rSt.wo {M M' M2 M2' : fmM} {D : dD} {S' : aS} {w : Nat} (h : rSt M M2 D) (hD : D.1 ≤ 8) (hw : (M.1 46 2).toInt = (w : Int)) (h16 : w < 16) (hx : xst M' D S') (hm : mst M2' D S') (ho : stO D S') (k1 : wkK w M M') (k2 : woK w M2 M2') : rSt M' M2' D := by
  obtain ⟨⟨h1, h2, h3⟩, h4, h5⟩ := h
  obtain ⟨a1, a2, a3, a4⟩ := k1
  obtain ⟨b1, b2, b3, b4, -, -, -⟩ := k2
  have h1 : M.1 46 2 = M2.1 0 32 := h1
  refine ⟨⟨?_, ⟨S', hx, hm, ho⟩, fun w' hw' h16' => ?_⟩, ?_, fun i hi hi3 => ?_⟩
  · show M'.1 46 2 = _
    rw [a4, b3, h1]
  · rw [b3, ← h1, i32_p1 hw (by omega)] at hw'
    by_cases e : w' = w
    · subst e
      exact h2.cp hD a3 (fun j hj => b2 j hj)
    · exact (h3 w' (by rw [← h1]; omega) h16').cp hD (smS.same (fun j => (a1 _ (by omega) j).1) (fun j => (a1 _ (by omega) j).1) (a1 _ (by omega) 6).2) (fun j _ => b1 _ j (by omega) (by omega) (by omega) (by omega) (by omega) (by omega))
  · rw [a2, b4]
    exact h4
  · rw [a2] at hi
    exact (h5 i hi hi3).keep hD (fun k a b j => a1 k (by omega) j) (b1 _ _ (by omega) (by omega) (by omega) (by omega) (by omega) (by omega)) (fun j _ => b1 _ _ (by omega) (by omega) (by omega) (by omega) (by omega) (by omega)) (fun w _ j _ => b1 _ _ (by omega) (by omega) (by omega) (by omega) (by omega) (by omega))
set_option maxRecDepth 20000 in
theorem c_mwoS {M : fmM} {Q : fmR → fmM → Prop} {nn : Int32} {w : Nat} {D : dD} {cs : tC} {S : aS} (hI : scInv Tm invM M) (hD : dOk D) (hY : mdw M D) (hL : lwM M cs) (hd : cs = [] ∨ dpB 23 0 cs = some 1) (hs : mst M D S) (ho : stO D S) (hw : (M.1 0 32).toInt = (w : Int)) (hw16 : w ≤ 16) (hrf : ¬ txP nn 150 (M.1 0 1).toInt → Q (.inl (some (.int 0))) (rfM M 1 1)) (hful : txP nn 150 (M.1 0 1).toInt → w = 16 → Q (.inl (some (.int (-20)))) (fmI (fmI (fmI M 0 0 0) 0 1 0) 0 3 (-1))) (hbad : ∀ (n k a : Nat) (r : Int32) (M' : fmM), nn.toInt = (n : Int) → txP nn 150 (M.1 0 1).toInt → w < 16 → spWork (rT M n) n D.1 = .inl (k, a) → r.toInt = (k : Int) - 10 → woF M M' → Q (.inl (some (.int r))) M') (hok : ∀ (n : Nat) (ss : tS) (M' : fmM), nn.toInt = (n : Int) → txP nn 150 (M.1 0 1).toInt → w < 16 → spWork (rT M n) n D.1 = .inr ss → mAll M' D cs (goW D cs ss S) → woK w M M' → Q (.inl (some (.int (M'.1 0 37)))) M') : pvGood Tm 214 qX11_work [.ref 0, .int nn] M Q := by
  refine pvGood_of (Nat.le_of_ble_eq_true rfl) ?_
  show pvEv Tm 214 qX11_work 0 [some (.ref 0), some (.int nn)] [] M Q
  have h4 : (M.1 4 0).toInt = (D.1 : Int) := hY.1
  have hl := hD.1
  have hI0 := hI.p00 (x := 0) (Or.inl rfl)
  have hfed := inv_fed hI
  refine pv_aloadn (pc := 0) (n := 0) 0 rfl rfl (fm_dec dtX11_work 0 rfl) ?_
  refine pv_iconst (pc := 1) (v := 0) (by decide) (fm_dec dtX11_work 1 rfl) ?_
  refine pv_putI (k := 0) (j := 0) (ci := 11) (pc := 2) pfl_X11_101 (by decide) rfl (by decide) (fm_dec dtX11_work 2 rfl) ?_
  refine pv_aloadn (pc := 5) (n := 0) 0 rfl rfl (fm_dec dtX11_work 3 rfl) ?_
  refine pv_iloadn (pc := 6) (n := 1) 1 rfl rfl (fm_dec dtX11_work 4 rfl) ?_
  refine pv_iconst (pc := 7) (v := 0) (by decide) (fm_dec dtX11_work 5 rfl) ?_
  refine pv_aloadn (pc := 8) (n := 0) 0 rfl rfl (fm_dec dtX11_work 6 rfl) ?_
  refine pv_getI (k := 0) (j := 1) (ci := 11) (pc := 9) pfl_X11_104 (by decide) rfl (by decide) (fm_dec dtX11_work 7 rfl) ?_
  refine pv_iS3 (d' := 0) (pc := 12) pcs_X11_135 (Nat.le_of_ble_eq_true rfl) (by decide) (fm_dec dtX11_work 8 rfl) ?_
  refine c_in (fun h12a h12b => ?_) (fun h12 => ?_)
  · refine pv_then1 ?_
    refine pv_if_eq (pc := 15) 25 (by decide) (fm_dec dtX11_work 9 rfl) (fun hc15 => by exfalso; revert hc15; decide) (fun _ => ?_)
    refine pv_iloadn (pc := 18) (n := 1) 1 rfl rfl (fm_dec dtX11_work 10 rfl) ?_
    refine pv_sipush (pc := 19) (v := 150) (by decide) (fm_dec dtX11_work 11 rfl) ?_
    refine pv_icmp_le (pc := 22) 29 (by decide) (fm_dec dtX11_work 12 rfl) (fun hc22 => ?_) (fun hc22 => ?_)
    · refine pv_iconst (pc := 29) (v := 0) (by decide) (fm_dec dtX11_work 15 rfl) ?_
      refine pv_iconst (pc := 30) (v := 1) (by decide) (fm_dec dtX11_work 16 rfl) ?_
      refine pv_iconst (pc := 31) (v := 1) (by decide) (fm_dec dtX11_work 17 rfl) ?_
      refine pv_invV3 (k := 0) (d' := 0) (pc := 32) pcv_X11_177 (by decide) rfl (Nat.le_of_ble_eq_true rfl) (by decide) (fm_dec dtX11_work 18 rfl) ?_
      refine c_badF1 rfl ?_
      refine pv_then1 ?_
      refine pv_if_eq (pc := 35) 40 (by decide) (fm_dec dtX11_work 19 rfl) (fun _ => ?_) (fun hc35 => by exfalso; revert hc35; decide)
      refine pv_aloadn (pc := 40) (n := 0) 0 rfl rfl (fm_dec dtX11_work 22 rfl) ?_
      refine pv_getI (k := 0) (j := 32) (ci := 11) (pc := 41) pfl_X11_200 (by decide) rfl (by decide) (fm_dec dtX11_work 23 rfl) ?_
      refine pv_bipush (pc := 44) (v := 16) (by decide) (fm_dec dtX11_work 24 rfl) ?_
      refine pv_icmp_ne (pc := 46) 62 (by decide) (fm_dec dtX11_work 25 rfl) (fun hc46 => ?_) (fun hc46 => ?_)
      · obtain ⟨n0, hn0⟩ : ∃ n0 : Nat, nn.toInt = n0 := ⟨nn.toInt.toNat, by have h9 : (0 : Int32).toInt = 0 := (by decide); omega⟩
        have hn150 : n0 ≤ 150 := (by have h9 := hc22; rw [sc_le] at h9; have h8 : (150 : Int32).toInt = 150 := (by decide); omega)
        have hn6 : n0 ≤ 600 := (by omega)
        refine pv_aloadn (pc := 62) (n := 0) 0 rfl rfl (fm_dec dtX11_work 34 rfl) ?_
        refine pv_iloadn (pc := 63) (n := 1) 1 rfl rfl (fm_dec dtX11_work 35 rfl) ?_
        refine pv_invV1 (k := 0) (d' := 2) (pc := 64) pcv_X11_181 (by decide) rfl (Nat.le_of_ble_eq_true rfl) (by omega) (fm_dec dtX11_work 36 rfl) ?_
        refine c_starts (n := n0) (M := fmI M 0 0 0) hfed hn6 hn0 (fun M64 h64 => ?_) 
        refine pv_then0 ?_
        refine pv_aloadn (pc := 67) (n := 0) 0 rfl rfl (fm_dec dtX11_work 37 rfl) ?_
        refine pv_iconst (pc := 68) (v := 0) (by decide) (fm_dec dtX11_work 38 rfl) ?_
        refine pv_putI (k := 0) (j := 26) (ci := 11) (pc := 69) pfl_X11_250 (by decide) rfl (by decide) (fm_dec dtX11_work 39 rfl) ?_
        have hI64 := inv_st hI h64
        have hok9 := rT_ok (n := n0) hfed hn6
        have hs0 : sk (rT M n0) 0 ≤ n0 := sp_le tB_1 hok9 (Nat.zero_le _)
        have hIs : scInv Tm invM (fmI M64 0 26 0) := hI64.put (scq_t 0) rfl
        have h4s : ((fmI M64 0 26 0).1 4 0).toInt = D.1 := (by rw [fmI_k _ _ (by decide), st_k h64 (by decide)]; exact h4)
        have hP : srPre (fmI M64 0 26 0) (rT M n0) n0 (sk (rT M n0) 0) 0 0 D.1 := ⟨h64.1.of rfl rfl rfl, h64.2.1, (by show (M64.1 0 8).toInt = _; rw [h64.2.2.1]; decide), by decide, (by rw [fmI_s]; decide), by omega, hn150, h4s, hl⟩
        have hbd := fun e he => wkL_bad hok9 hn150 700 0 (sk (rT M n0) 0) e hs0 (by omega) he (l := D.1)
        have hwlt : w < 16 := (by have h9 : ¬ w = 16 := (fun h9 => hc46 (i32_ext (hw.trans (by rw [h9]; decide)))); omega)
        refine wk_loopS (l := D.1) 700 0 _ _ hP (fun a h9 => by have h8 := (hbd _ h9).1.2; exact absurd h8 (show ¬ 9 ≤ 3 by decide)) (fun M2 ss q e h => ?_) (fun M2 k a e hB => ?_)
        · have g := wkL_ok hok9 700 0 _ ss hs0 e
          have hN := spWork_nu hok9 hn150 hD.1 e
          obtain ⟨g9, hg9⟩ := spWork_wn (l := D.1) e
          have ew : woF M M2 := wo_F h64 h.2.2.2.2.2
          refine wk_sS (w := w) h.2.1 hD hN.1 hg9 (hY.k hD (fun k j a => ew.1 k j (by omega) (by omega))) (hL.f2 (ew.2.1 17 (by decide)) (fun k j a b => ew.1 k j (by omega) (by omega))) hd (hs.of (fun j => ew.1 7 j (by decide) (by decide))) ho (by rw [ew.2.1 32 (by decide)]; exact hw) hwlt h.2.2.2.2.1 (by omega) (by rw [h.2.2.2.1]; congr 1; omega) (fun M3 M' a1 a2 a3 => hok n0 ss M' hn0 ⟨by omega, by omega, by exact h12b⟩ hwlt e a1 (wo_M hwlt ew a2 a3))
        · have hk := hbd _ e
          exact wk_e1S hB.nz (hbad n0 k a _ _ hn0 ⟨by omega, by omega, by exact h12b⟩ hwlt e (law_r hB.2.1 (by have h8 := hB.2.1; have h7 := hk.1; omega)) (wo_F h64 hB.2.2.2.2).p3)
      · refine pv_aloadn (pc := 49) (n := 0) 0 rfl rfl (fm_dec dtX11_work 26 rfl) ?_
        refine pv_iconst (pc := 50) (v := 0) (by decide) (fm_dec dtX11_work 27 rfl) ?_
        refine pv_putI (k := 0) (j := 1) (ci := 11) (pc := 51) pfl_X11_104 (by decide) rfl (by decide) (fm_dec dtX11_work 28 rfl) ?_
        refine pv_aloadn (pc := 54) (n := 0) 0 rfl rfl (fm_dec dtX11_work 29 rfl) ?_
        refine pv_iconst (pc := 55) (v := (-1)) (by decide) (fm_dec dtX11_work 30 rfl) ?_
        refine pv_putI (k := 0) (j := 3) (ci := 11) (pc := 56) pfl_X11_9 (by decide) rfl (by decide) (fm_dec dtX11_work 31 rfl) ?_
        refine pv_bipush (pc := 59) (v := (-20)) (by decide) (fm_dec dtX11_work 32 rfl) ?_
        exact pv_ireturn (pc := 61) rfl (fm_dec dtX11_work 33 rfl) (hful ⟨by have h9 : (0 : Int32).toInt = 0 := (by decide); omega, by have h9 := hc22; rw [sc_le] at h9; have h8 : (150 : Int32).toInt = 150 := (by decide); omega, by exact h12b⟩ (by have h8 : (M.1 0 32).toInt = (16 : Int32).toInt := congrArg Int32.toInt hc46; have h7 : (16 : Int32).toInt = 16 := (by decide); omega))
    · refine pv_iconst (pc := 25) (v := 1) (by decide) (fm_dec dtX11_work 13 rfl) ?_
      refine pv_goto (pc := 26) 30 (by decide) (fm_dec dtX11_work 14 rfl) ?_
      refine pv_iconst (pc := 30) (v := 1) (by decide) (fm_dec dtX11_work 16 rfl) ?_
      refine pv_iconst (pc := 31) (v := 1) (by decide) (fm_dec dtX11_work 17 rfl) ?_
      refine pv_invV3 (k := 0) (d' := 0) (pc := 32) pcv_X11_177 (by decide) rfl (Nat.le_of_ble_eq_true rfl) (by decide) (fm_dec dtX11_work 18 rfl) ?_
      refine c_badT1 rfl (by decide) ?_
      refine pv_then1 ?_
      refine pv_if_eq (pc := 35) 40 (by decide) (fm_dec dtX11_work 19 rfl) (fun hc35 => by exfalso; revert hc35; decide) (fun _ => ?_)
      refine pv_iconst (pc := 38) (v := 0) (by decide) (fm_dec dtX11_work 20 rfl) ?_
      exact pv_ireturn (pc := 39) rfl (fm_dec dtX11_work 21 rfl) (hrf (by intro h9; first | (have h8 := hc22; rw [sc_le] at h8; have h7 : (150 : Int32).toInt = 150 := (by decide); have h6 := h9.2.1; omega) | exact h12 ⟨(show (0 : Int32).toInt ≤ _ from h9.1), h9.2.2⟩))
  · refine pv_then1 ?_
    refine pv_if_eq (pc := 15) 25 (by decide) (fm_dec dtX11_work 9 rfl) (fun _ => ?_) (fun hc15 => by exfalso; revert hc15; decide)
    refine pv_iconst (pc := 25) (v := 1) (by decide) (fm_dec dtX11_work 13 rfl) ?_
    refine pv_goto (pc := 26) 30 (by decide) (fm_dec dtX11_work 14 rfl) ?_
    refine pv_iconst (pc := 30) (v := 1) (by decide) (fm_dec dtX11_work 16 rfl) ?_
    refine pv_iconst (pc := 31) (v := 1) (by decide) (fm_dec dtX11_work 17 rfl) ?_
    refine pv_invV3 (k := 0) (d' := 0) (pc := 32) pcv_X11_177 (by decide) rfl (Nat.le_of_ble_eq_true rfl) (by decide) (fm_dec dtX11_work 18 rfl) ?_
    refine c_badT1 rfl (by decide) ?_
    refine pv_then1 ?_
    refine pv_if_eq (pc := 35) 40 (by decide) (fm_dec dtX11_work 19 rfl) (fun hc35 => by exfalso; revert hc35; decide) (fun _ => ?_)
    refine pv_iconst (pc := 38) (v := 0) (by decide) (fm_dec dtX11_work 20 rfl) ?_
    exact pv_ireturn (pc := 39) rfl (fm_dec dtX11_work 21 rfl) (hrf (by intro h9; first | (have h8 := hc22; rw [sc_le] at h8; have h7 : (150 : Int32).toInt = 150 := (by decide); have h6 := h9.2.1; omega) | exact h12 ⟨(show (0 : Int32).toInt ≤ _ from h9.1), h9.2.2⟩))
end
-- P 18yg
section
-- FRACTIONS IN LEAST TERMS, exactly
theorem j64_ext {a b : Int64} (h : a.toInt = b.toInt) : a = b := Int64.toInt_inj.mp h
def iZ (v : Int) : Int32 := Int32.ofInt v
theorem iZ_is {x : Int32} {v : Int} (h : x.toInt = v) : x = iZ v := by
  subst h
  exact (Int32.ofInt_toInt x).symm
def jZ (v : Int) : Int64 := Int64.ofInt v
theorem jZ_is {x : Int64} {v : Int} (h : x.toInt = v) : x = jZ v := by
  subst h
  exact (Int64.ofInt_toInt x).symm
/-- above (p 0) or below of a by b, in least terms -/
def frV (a b : Int64) (p : Int32) : Int64 := (if p = 0 then a else b) / jZ ((Nat.gcd a.toInt.toNat b.toInt.toNat : Nat) : Int)
theorem frV_0 {a b g : Int64} {p : Int32} (h : g.toInt = ((Nat.gcd a.toInt.toNat b.toInt.toNat : Nat) : Int)) (hp : p = 0) : a / g = frV a b p := by
  unfold frV
  rw [if_pos hp, ← jZ_is h]
theorem frV_1 {a b g : Int64} {p : Int32} (h : g.toInt = ((Nat.gcd a.toInt.toNat b.toInt.toNat : Nat) : Int)) (hp : ¬ p = 0) : b / g = frV a b p := by
  unfold frV
  rw [if_neg hp, ← jZ_is h]
theorem lcq {x : Int64} : lg_cmp x 0 = 0 ↔ x = 0 := by
  unfold lg_cmp
  split
  · rename_i h
    constructor
    · intro h9
      exact absurd h9 (by decide)
    · intro h9
      rw [h9] at h
      exact absurd h (by decide)
  · split
    · rename_i h
      exact ⟨fun _ => h, fun _ => rfl⟩
    · rename_i h
      exact ⟨fun h9 => absurd h9 (by decide), fun h9 => absurd h9 h⟩
theorem lcp {x : Int64} (h : 0 < x.toInt) : ¬ lg_cmp x 0 ≤ 0 := by
  unfold lg_cmp
  split
  · decide
  · rename_i h9
    have z0 : (0 : Int64).toInt = 0 := by decide
    have h8 : ¬ (0 : Int64).toInt < x.toInt := fun e => h9 (Int64.lt_iff_toInt_lt.mpr e)
    omega
theorem rem_n {x z : Int64} {u v : Nat} (hx : x.toInt = (v : Int)) (hz : z.toInt = (u : Int)) (hu : 0 < u) : (x - x / z * z).toInt = ((v % u : Nat) : Int) := by
  have e1 : (x / z).toInt = ((v / u : Nat) : Int) := by
    rw [Int64.toInt_div, hx, hz, ← Int.ofNat_tdiv]
    have b := x.toInt_lt
    have h1 : v / u ≤ v := Nat.div_le_self _ _
    have h0 : 0 ≤ ((v / u : Nat) : Int) := Int.natCast_nonneg _
    exact Int.bmod_eq_of_le (by omega) (by omega)
  have h2 : v / u * u ≤ v := Nat.div_mul_le_self v u
  have h3 : v % u = v - v / u * u := by
    have h4 := Nat.div_add_mod v u
    rw [Nat.mul_comm] at h4
    omega
  have b := x.toInt_lt
  have e2 : (x / z * z).toInt = ((v / u * u : Nat) : Int) := by
    rw [Int64.toInt_mul, e1, hz, ← Int.natCast_mul]
    exact Int.bmod_eq_of_le (by omega) (by omega)
  rw [Int64.toInt_sub, e2, hx]
  rw [Int.bmod_eq_of_le (by omega) (by omega)]
  omega
/-- so many turns are enough -/
def euB (k u v : Nat) : Prop := (u ≤ v ∧ u * v < 2 ^ k) ∨ (v < u ∧ ∃ k', k = k' + 1 ∧ u * v < 2 ^ k')
theorem eu_0 {u v : Nat} (h : euB 0 u v) (hv : 0 < v) : u = 0 := by
  rcases h with ⟨_, h⟩ | ⟨_, k, h, _⟩
  · rcases Nat.eq_zero_or_pos u with e | e
    · exact e
    · have h9 := Nat.mul_pos e hv
      omega
  · omega
theorem eu_s {k u v : Nat} (h : euB (k + 1) u v) (hu : 0 < u) : euB k (v % u) u := by
  have hm := Nat.mod_lt v hu
  rcases h with ⟨h1, h2⟩ | ⟨h1, k', h3, h2⟩
  · refine Or.inl ⟨by omega, ?_⟩
    have h3 : 2 * (v % u) ≤ v := by
      have h4 := Nat.div_add_mod v u
      have h5 : 1 ≤ v / u := (Nat.one_le_div_iff hu).mpr h1
      have h6 : u * 1 ≤ u * (v / u) := Nat.mul_le_mul_left u h5
      omega
    have h4 : 2 * (v % u) * u ≤ v * u := Nat.mul_le_mul_right u h3
    rw [Nat.mul_comm u v] at h2
    rw [Nat.pow_succ] at h2
    rw [Nat.mul_assoc] at h4
    omega
  · obtain rfl : k = k' := by omega
    refine Or.inl ⟨by omega, ?_⟩
    rw [Nat.mod_eq_of_lt h1, Nat.mul_comm]
    exact h2
theorem eu_st {a b : Int64} (h0 : 0 ≤ a.toInt) (h1 : 0 < b.toInt) : euB 127 a.toInt.toNat b.toInt.toNat := by
  have ba := a.toInt_lt
  have bb := b.toInt_lt
  have h2 : a.toInt.toNat * b.toInt.toNat ≤ (2 ^ 63 - 1) * (2 ^ 63 - 1) := Nat.mul_le_mul (by omega) (by omega)
  by_cases e : a.toInt.toNat ≤ b.toInt.toNat
  · exact Or.inl ⟨e, by omega⟩
  · exact Or.inr ⟨by omega, 126, rfl, by omega⟩
theorem eu_g {u v : Nat} : Nat.gcd (v % u) u = Nat.gcd u v := (Nat.gcd_rec u v).symm
theorem div_nz {x : Int64} (h : 0 < x.toInt) : ¬ x = 0 := by
  intro e
  rw [e] at h
  exact absurd h (by decide)
theorem ge_1 {x : Int64} {u : Nat} (hx : x.toInt = (u : Int)) (hne : ¬ x = 0) : 0 < u := by
  rcases Nat.eq_zero_or_pos u with e | e
  · exact absurd (j64_ext (by rw [hx, e]; decide)) hne
  · exact e
set_option maxRecDepth 20000 in
theorem xtm_loop {Q : fmR → fmM → Prop} {M : fmM} {a b : Int64} {p : Int32} (hq : Q (.inl (some (.long (frV a b p)))) M) : ∀ (k : Nat) (u v : Nat) (i : Nat) (one oth : Int64) (v10 v11 : Option Value), euB k u v → 0 < v → one.toInt = (u : Int) → oth.toInt = (v : Int) → Nat.gcd u v = Nat.gcd a.toInt.toNat b.toInt.toNat → i + k ≤ 200 → pvEv Tx 0 qX10_termOf 9 [some (.long a), none, some (.long b), none, some (.int p), some (.long one), none, some (.long oth), none, some (.int (nI i)), v10, v11] [] M Q := by
  intro k
  induction k using Nat.strongRecOn with
  | _ k ih =>
    intro u v i one oth v10 v11 hE hv h1 h2 hgc hik
    refine pv_iload (pc := 9) (i := 9) rfl (fm_dec dtX10_termOf 6 rfl) ?_
    refine pv_sipush (pc := 11) (v := 200) (by decide) (fm_dec dtX10_termOf 7 rfl) ?_
    refine pv_icmp_ge (pc := 14) 45 (by decide) (fm_dec dtX10_termOf 8 rfl) (fun hc14 => ?_) (fun hc14 => ?_)
    · have hu0 : u = 0 := eu_0 (by have h9 : 200 ≤ i := (by have h8 : (200 : Int32).toInt = 200 := (by decide); have h7 : (nI i).toInt = (i : Int) := nI_toInt (by omega); rw [sc_le] at hc14; omega); have e9 : k = 0 := (by omega); rw [e9] at hE; exact hE) hv
      have hg : oth.toInt = ((Nat.gcd a.toInt.toNat b.toInt.toNat : Nat) : Int) := (by rw [← hgc, hu0, Nat.gcd_zero_left]; exact h2)
      have hp9 : 0 < oth.toInt := (by omega)
      refine pv_lload (pc := 45) (i := 7) rfl (fm_dec dtX10_termOf 23 rfl) ?_
      refine pv_lconst (pc := 47) (v := 0) (by decide) (fm_dec dtX10_termOf 24 rfl) ?_
      refine pv_lcmp (pc := 48) (fm_dec dtX10_termOf 25 rfl) ?_
      refine pv_if_le (pc := 49) 57 (by decide) (fm_dec dtX10_termOf 26 rfl) (fun hc49 => by exfalso; exact lcp hp9 hc49) (fun _ => ?_)
      refine pv_lload (pc := 52) (i := 7) rfl (fm_dec dtX10_termOf 27 rfl) ?_
      refine pv_goto (pc := 54) 58 (by decide) (fm_dec dtX10_termOf 28 rfl) ?_
      refine pv_lstore (pc := 58) (i := 9) (by decide) rfl (fm_dec dtX10_termOf 30 rfl) ?_
      dsimp only [List.set_cons_zero, List.set_cons_succ]
      refine pv_iload (pc := 60) (i := 4) rfl (fm_dec dtX10_termOf 31 rfl) ?_
      refine pv_if_ne (pc := 62) 69 (by decide) (fm_dec dtX10_termOf 32 rfl) (fun hc62 => ?_) (fun hc62 => ?_)
      · refine pv_lloadn (pc := 69) (n := 2) 2 rfl rfl (fm_dec dtX10_termOf 35 rfl) ?_
        refine pv_lload (pc := 70) (i := 9) rfl (fm_dec dtX10_termOf 36 rfl) ?_
        refine pv_ldiv (pc := 72) (div_nz hp9) (fm_dec dtX10_termOf 37 rfl) ?_
        exact pv_lreturn (pc := 73) rfl (fm_dec dtX10_termOf 38 rfl) (by rw [frV_1 hg hc62]; exact hq)
      · refine pv_lloadn (pc := 65) (n := 0) 0 rfl rfl (fm_dec dtX10_termOf 33 rfl) ?_
        refine pv_goto (pc := 66) 70 (by decide) (fm_dec dtX10_termOf 34 rfl) ?_
        refine pv_lload (pc := 70) (i := 9) rfl (fm_dec dtX10_termOf 36 rfl) ?_
        refine pv_ldiv (pc := 72) (div_nz hp9) (fm_dec dtX10_termOf 37 rfl) ?_
        exact pv_lreturn (pc := 73) rfl (fm_dec dtX10_termOf 38 rfl) (by rw [frV_0 hg hc62]; exact hq)
    · refine pv_lload (pc := 17) (i := 5) rfl (fm_dec dtX10_termOf 9 rfl) ?_
      refine pv_lconst (pc := 19) (v := 0) (by decide) (fm_dec dtX10_termOf 10 rfl) ?_
      refine pv_lcmp (pc := 20) (fm_dec dtX10_termOf 11 rfl) ?_
      refine pv_if_eq (pc := 21) 45 (by decide) (fm_dec dtX10_termOf 12 rfl) (fun hc21 => ?_) (fun hc21 => ?_)
      · have hu0 : u = 0 := (by have h9 := lcq.mp hc21; rw [h9] at h1; have h8 : (0 : Int64).toInt = 0 := (by decide); omega)
        have hg : oth.toInt = ((Nat.gcd a.toInt.toNat b.toInt.toNat : Nat) : Int) := (by rw [← hgc, hu0, Nat.gcd_zero_left]; exact h2)
        have hp9 : 0 < oth.toInt := (by omega)
        refine pv_lload (pc := 45) (i := 7) rfl (fm_dec dtX10_termOf 23 rfl) ?_
        refine pv_lconst (pc := 47) (v := 0) (by decide) (fm_dec dtX10_termOf 24 rfl) ?_
        refine pv_lcmp (pc := 48) (fm_dec dtX10_termOf 25 rfl) ?_
        refine pv_if_le (pc := 49) 57 (by decide) (fm_dec dtX10_termOf 26 rfl) (fun hc49 => by exfalso; exact lcp hp9 hc49) (fun _ => ?_)
        refine pv_lload (pc := 52) (i := 7) rfl (fm_dec dtX10_termOf 27 rfl) ?_
        refine pv_goto (pc := 54) 58 (by decide) (fm_dec dtX10_termOf 28 rfl) ?_
        refine pv_lstore (pc := 58) (i := 9) (by decide) rfl (fm_dec dtX10_termOf 30 rfl) ?_
        dsimp only [List.set_cons_zero, List.set_cons_succ]
        refine pv_iload (pc := 60) (i := 4) rfl (fm_dec dtX10_termOf 31 rfl) ?_
        refine pv_if_ne (pc := 62) 69 (by decide) (fm_dec dtX10_termOf 32 rfl) (fun hc62 => ?_) (fun hc62 => ?_)
        · refine pv_lloadn (pc := 69) (n := 2) 2 rfl rfl (fm_dec dtX10_termOf 35 rfl) ?_
          refine pv_lload (pc := 70) (i := 9) rfl (fm_dec dtX10_termOf 36 rfl) ?_
          refine pv_ldiv (pc := 72) (div_nz hp9) (fm_dec dtX10_termOf 37 rfl) ?_
          exact pv_lreturn (pc := 73) rfl (fm_dec dtX10_termOf 38 rfl) (by rw [frV_1 hg hc62]; exact hq)
        · refine pv_lloadn (pc := 65) (n := 0) 0 rfl rfl (fm_dec dtX10_termOf 33 rfl) ?_
          refine pv_goto (pc := 66) 70 (by decide) (fm_dec dtX10_termOf 34 rfl) ?_
          refine pv_lload (pc := 70) (i := 9) rfl (fm_dec dtX10_termOf 36 rfl) ?_
          refine pv_ldiv (pc := 72) (div_nz hp9) (fm_dec dtX10_termOf 37 rfl) ?_
          exact pv_lreturn (pc := 73) rfl (fm_dec dtX10_termOf 38 rfl) (by rw [frV_0 hg hc62]; exact hq)
      · refine pv_lload (pc := 24) (i := 7) rfl (fm_dec dtX10_termOf 13 rfl) ?_
        refine pv_lload (pc := 26) (i := 5) rfl (fm_dec dtX10_termOf 14 rfl) ?_
        refine pv_lrem (pc := 28) (fun e => hc21 (lcq.mpr e)) (fm_dec dtX10_termOf 15 rfl) ?_
        refine pv_lstore (pc := 29) (i := 10) (by decide) rfl (fm_dec dtX10_termOf 16 rfl) ?_
        dsimp only [List.set_cons_zero, List.set_cons_succ]
        refine pv_lload (pc := 31) (i := 5) rfl (fm_dec dtX10_termOf 17 rfl) ?_
        refine pv_lstore (pc := 33) (i := 7) (by decide) rfl (fm_dec dtX10_termOf 18 rfl) ?_
        dsimp only [List.set_cons_zero, List.set_cons_succ]
        refine pv_lload (pc := 35) (i := 10) rfl (fm_dec dtX10_termOf 19 rfl) ?_
        refine pv_lstore (pc := 37) (i := 5) (by decide) rfl (fm_dec dtX10_termOf 20 rfl) ?_
        dsimp only [List.set_cons_zero, List.set_cons_succ]
        refine pv_iincc (pc := 39) 9 1 (by decide) rfl (by decide) rfl (fm_dec dtX10_termOf 21 rfl) ?_
        dsimp only [List.set_cons_zero, List.set_cons_succ]
        refine pv_goto (pc := 42) 9 (by decide) (fm_dec dtX10_termOf 22 rfl) ?_
        have hne : ¬ one = 0 := (fun e => hc21 (lcq.mpr e))
        have hu := ge_1 h1 hne
        obtain ⟨k, rfl⟩ : ∃ k', k = k' + 1 := (by cases k with | zero => exact absurd (eu_0 hE hv) (by omega) | succ k => exact ⟨k, rfl⟩)
        rw [nI_succ1]
        exact ih k (by omega) (v % u) u (i + 1) _ _ _ _ (eu_s hE hu) hu (rem_n h2 h1 hu) h1 (by rw [eu_g]; exact hgc) (by omega)
set_option maxRecDepth 20000 in
theorem c_xterm {M : fmM} {Q : fmR → fmM → Prop} {a b : Int64} {p : Int32} (h0 : 0 ≤ a.toInt) (hb : 0 < b.toInt) (hq : Q (.inl (some (.long (frV a b p)))) M) : pvGood Tx 0 qX10_termOf [.long a, .long b, .int p] M Q := by
  refine pvGood_of (Nat.le_of_ble_eq_true rfl) ?_
  show pvEv Tx 0 qX10_termOf 0 [some (.long a), none, some (.long b), none, some (.int p), none, none, none, none, none, none, none] [] M Q
  refine pv_lloadn (pc := 0) (n := 0) 0 rfl rfl (fm_dec dtX10_termOf 0 rfl) ?_
  refine pv_lstore (pc := 1) (i := 5) (by decide) rfl (fm_dec dtX10_termOf 1 rfl) ?_
  dsimp only [List.set_cons_zero, List.set_cons_succ]
  refine pv_lloadn (pc := 3) (n := 2) 2 rfl rfl (fm_dec dtX10_termOf 2 rfl) ?_
  refine pv_lstore (pc := 4) (i := 7) (by decide) rfl (fm_dec dtX10_termOf 3 rfl) ?_
  dsimp only [List.set_cons_zero, List.set_cons_succ]
  refine pv_iconst (pc := 6) (v := 0) (by decide) (fm_dec dtX10_termOf 4 rfl) ?_
  refine pv_istore (pc := 7) (i := 9) (by decide) rfl (fm_dec dtX10_termOf 5 rfl) ?_
  dsimp only [List.set_cons_zero, List.set_cons_succ]
  exact xtm_loop hq 127 a.toInt.toNat b.toInt.toNat 0 _ _ _ _ (eu_st h0 hb) (by omega) (by omega) (by omega) rfl (by decide)
set_option maxRecDepth 20000 in
theorem mtm_loop {Q : fmR → fmM → Prop} {M : fmM} {a b : Int64} {p : Int32} (hq : Q (.inl (some (.long (frV a b p)))) M) : ∀ (k : Nat) (u v : Nat) (one oth : Int64) (v9 v10 : Option Value), euB k u v → 0 < v → one.toInt = (u : Int) → oth.toInt = (v : Int) → Nat.gcd u v = Nat.gcd a.toInt.toNat b.toInt.toNat → pvEv Tm 0 qX11_partOf 6 [some (.long a), none, some (.long b), none, some (.int p), some (.long oth), none, some (.long one), none, v9, v10] [] M Q := by
  intro k
  induction k using Nat.strongRecOn with
  | _ k ih =>
    intro u v one oth v9 v10 hE hv h1 h2 hgc
    refine pv_lload (pc := 6) (i := 7) rfl (fm_dec dtX11_partOf 4 rfl) ?_
    refine pv_lconst (pc := 8) (v := 0) (by decide) (fm_dec dtX11_partOf 5 rfl) ?_
    refine pv_lcmp (pc := 9) (fm_dec dtX11_partOf 6 rfl) ?_
    refine pv_if_eq (pc := 10) 31 (by decide) (fm_dec dtX11_partOf 7 rfl) (fun hc10 => ?_) (fun hc10 => ?_)
    · have hu0 : u = 0 := (by have h9 := lcq.mp hc10; rw [h9] at h1; have h8 : (0 : Int64).toInt = 0 := (by decide); omega)
      have hg : oth.toInt = ((Nat.gcd a.toInt.toNat b.toInt.toNat : Nat) : Int) := (by rw [← hgc, hu0, Nat.gcd_zero_left]; exact h2)
      have hp9 : 0 < oth.toInt := (by omega)
      refine pv_iload (pc := 31) (i := 4) rfl (fm_dec dtX11_partOf 17 rfl) ?_
      refine pv_if_ne (pc := 33) 43 (by decide) (fm_dec dtX11_partOf 18 rfl) (fun hc33 => ?_) (fun hc33 => ?_)
      · refine pv_lloadn (pc := 43) (n := 2) 2 rfl rfl (fm_dec dtX11_partOf 23 rfl) ?_
        refine pv_lload (pc := 44) (i := 5) rfl (fm_dec dtX11_partOf 24 rfl) ?_
        refine pv_ldiv (pc := 46) (div_nz hp9) (fm_dec dtX11_partOf 25 rfl) ?_
        exact pv_lreturn (pc := 47) rfl (fm_dec dtX11_partOf 26 rfl) (by rw [frV_1 hg hc33]; exact hq)
      · refine pv_lloadn (pc := 36) (n := 0) 0 rfl rfl (fm_dec dtX11_partOf 19 rfl) ?_
        refine pv_lload (pc := 37) (i := 5) rfl (fm_dec dtX11_partOf 20 rfl) ?_
        refine pv_ldiv (pc := 39) (div_nz hp9) (fm_dec dtX11_partOf 21 rfl) ?_
        refine pv_goto (pc := 40) 47 (by decide) (fm_dec dtX11_partOf 22 rfl) ?_
        exact pv_lreturn (pc := 47) rfl (fm_dec dtX11_partOf 26 rfl) (by rw [frV_0 hg hc33]; exact hq)
    · refine pv_lload (pc := 13) (i := 5) rfl (fm_dec dtX11_partOf 8 rfl) ?_
      refine pv_lload (pc := 15) (i := 7) rfl (fm_dec dtX11_partOf 9 rfl) ?_
      refine pv_lrem (pc := 17) (fun e => hc10 (lcq.mpr e)) (fm_dec dtX11_partOf 10 rfl) ?_
      refine pv_lstore (pc := 18) (i := 9) (by decide) rfl (fm_dec dtX11_partOf 11 rfl) ?_
      dsimp only [List.set_cons_zero, List.set_cons_succ]
      refine pv_lload (pc := 20) (i := 7) rfl (fm_dec dtX11_partOf 12 rfl) ?_
      refine pv_lstore (pc := 22) (i := 5) (by decide) rfl (fm_dec dtX11_partOf 13 rfl) ?_
      dsimp only [List.set_cons_zero, List.set_cons_succ]
      refine pv_lload (pc := 24) (i := 9) rfl (fm_dec dtX11_partOf 14 rfl) ?_
      refine pv_lstore (pc := 26) (i := 7) (by decide) rfl (fm_dec dtX11_partOf 15 rfl) ?_
      dsimp only [List.set_cons_zero, List.set_cons_succ]
      refine pv_goto (pc := 28) 6 (by decide) (fm_dec dtX11_partOf 16 rfl) ?_
      have hne : ¬ one = 0 := (fun e => hc10 (lcq.mpr e))
      have hu := ge_1 h1 hne
      obtain ⟨k, rfl⟩ : ∃ k', k = k' + 1 := (by cases k with | zero => exact absurd (eu_0 hE hv) (by omega) | succ k => exact ⟨k, rfl⟩)
      exact ih k (by omega) (v % u) u _ _ _ _ (eu_s hE hu) hu (rem_n h2 h1 hu) h1 (by rw [eu_g]; exact hgc)
set_option maxRecDepth 20000 in
theorem c_mterm {M : fmM} {Q : fmR → fmM → Prop} {a b : Int64} {p : Int32} (h0 : 0 ≤ a.toInt) (hb : 0 < b.toInt) (hq : Q (.inl (some (.long (frV a b p)))) M) : pvGood Tm 0 qX11_partOf [.long a, .long b, .int p] M Q := by
  refine pvGood_of (Nat.le_of_ble_eq_true rfl) ?_
  show pvEv Tm 0 qX11_partOf 0 [some (.long a), none, some (.long b), none, some (.int p), none, none, none, none, none, none] [] M Q
  refine pv_lloadn (pc := 0) (n := 2) 2 rfl rfl (fm_dec dtX11_partOf 0 rfl) ?_
  refine pv_lstore (pc := 1) (i := 5) (by decide) rfl (fm_dec dtX11_partOf 1 rfl) ?_
  dsimp only [List.set_cons_zero, List.set_cons_succ]
  refine pv_lloadn (pc := 3) (n := 0) 0 rfl rfl (fm_dec dtX11_partOf 2 rfl) ?_
  refine pv_lstore (pc := 4) (i := 7) (by decide) rfl (fm_dec dtX11_partOf 3 rfl) ?_
  dsimp only [List.set_cons_zero, List.set_cons_succ]
  exact mtm_loop hq 127 a.toInt.toNat b.toInt.toNat _ _ _ _ (eu_st h0 hb) (by omega) (by omega) (by omega) rfl
theorem frV_z {p : Int32} : frV 0 1 p = frV 0 64 p := by
  unfold frV
  by_cases e : p = 0
  · rw [if_pos e, if_pos e]
    decide
  · rw [if_neg e, if_neg e]
    decide
end
-- P 18yh
section
-- QUERIES
theorem glueV {P : Prop} {v : fmR} {r r2 : fmR} {M : fmM} (hv : ∃ x, v = .inl x) (h : (P ∧ r = v) ∨ (¬ P ∧ r = .inr fmIAE)) (h2 : (P ∧ r2 = v ∧ M.1 0 0 = 0) ∨ (¬ P ∧ M.1 0 0 = 1)) : mtI 1 0 r r2 M := by
  obtain ⟨x, rfl⟩ := hv
  rcases h with ⟨p, rfl⟩ | ⟨p, rfl⟩
  · rcases h2 with ⟨_, e, t⟩ | ⟨q, _⟩
    · exact ⟨t, e⟩
    · exact absurd p q
  · rcases h2 with ⟨q, _⟩ | ⟨_, t⟩
    · exact absurd q p
    · exact ⟨fun _ => t, fun h => absurd h (by decide)⟩
/-- all that the first side's queries read -/
def xAq (M : fmM) (D : dD) (cs : tC) (S : aS) : Prop := dOk D ∧ xdw 3 M D ∧ lwX M cs ∧ xst M D S ∧ stO D S
theorem xAq.low {M M' : fmM} {D : dD} {cs : tC} {S : aS} (h : xAq M D cs S) (hk : ∀ k j, k ≠ 26 → M'.1 k j = M.1 k j) (h2 : M'.2 = M.2) : xAq M' D cs S := ⟨h.1, h.2.1.of (fun k j a b => hk k j (by omega)), h.2.2.1.f (hk 23 3 (by decide)) (fun i => hk 24 i (by decide)), h.2.2.2.1.low hk h2, h.2.2.2.2⟩
/-- and the other's -/
def mAq (M : fmM) (D : dD) (cs : tC) (S : aS) : Prop := dOk D ∧ mdw M D ∧ lwM M cs ∧ (cs = [] ∨ dpB 23 0 cs = some 1) ∧ mst M D S ∧ stO D S
theorem mAq.low {M M' : fmM} {D : dD} {cs : tC} {S : aS} (h : mAq M D cs S) (hk : ∀ k j, k ≠ 0 → k ≠ 5 → k ≠ 6 → M'.1 k j = M.1 k j) (h0 : M'.1 0 17 = M.1 0 17) : mAq M' D cs S := ⟨h.1, h.2.1.k h.1 (fun k j a => hk k j (by omega) (by omega) (by omega)), h.2.2.1.f h0 (fun k j a => hk k j (by omega) (by omega) (by omega)), h.2.2.2.1, h.2.2.2.2.1.of (fun j => hk 7 j (by decide) (by decide) (by decide)), h.2.2.2.2.2⟩
theorem mAq.z {M : fmM} {D : dD} {cs : tC} {S : aS} {x : Int32} (h : mAq M D cs S) : mAq (fmI M 0 0 x) D cs S := h.low (fun k j a _ _ => by rw [fmI_k _ _ a]) (by rw [fmI_j _ _ (by decide)])
theorem inL.n {D : dD} {x : Int32} (hD : dOk D) (h : inL D x) : ∃ i : Nat, i < D.1 ∧ x = nI i ∧ x.toInt.toNat = i := by
  have d8 := hD.1
  obtain ⟨h1, h2⟩ := h
  exact ⟨x.toInt.toNat, by omega, nI_is (by omega) (by omega), rfl⟩
/-- the first n of them, as bits -/
def bS (F : Nat → Bool) : Nat → Nat
  | 0 => 0
  | n + 1 => if F n = true then bS F n ||| 1 <<< n else bS F n
theorem bS_t {F : Nat → Bool} {n : Nat} (h : F n = true) : bS F (n + 1) = bS F n ||| 1 <<< n := if_pos h
theorem bS_n {F : Nat → Bool} {n : Nat} (h : F n = false) : bS F (n + 1) = bS F n := if_neg (by rw [h]; decide)
theorem or8k : ∀ w, w < 256 → ∀ k, k < 8 → w ||| 1 <<< k < 256 := by decide +kernel
theorem bS_8 {F : Nat → Bool} : ∀ n, n ≤ 8 → bS F n < 256 := by
  intro n
  induction n with
  | zero => intro _; exact (by decide : (0 : Nat) < 256)
  | succ n ih =>
    intro hn
    have h1 := ih (by omega)
    cases h : F n with
    | false =>
      rw [bS_n h]
      exact h1
    | true =>
      rw [bS_t h]
      exact or8k _ h1 n (by omega)
theorem ag_b {D : dD} {S : aS} {i : Nat} (ho : stO D S) (hi : i < D.1) : -1 ≤ S.2 i ∧ S.2 i ≤ 240 := by
  have h1 := ho.2.2.2.2.2.2.1 i hi
  have h2 := ho.1
  omega
/-- the piece's age, as it stands on the first side -/
theorem ag_x {M : fmM} {D : dD} {S : aS} {i : Nat} (hs : xst M D S) (hi : i < D.1) : (M.1 48 i).toInt = S.2 i := hs.2.2.2.2.2.2 i hi
theorem ag_n {M : fmM} {D : dD} {S : aS} {i : Nat} (hs : xst M D S) (ho : stO D S) (hi : i < D.1) (h : ¬ M.1 48 i = -1) : M.1 48 i = nI (S.2 i).toNat ∧ ¬ S.2 i = -1 := by
  have h1 := ag_x hs hi
  have h2 := ag_b ho hi
  have zm : (-1 : Int32).toInt = -1 := by decide
  have h3 : ¬ S.2 i = -1 := fun e => h (i32_ext (by omega))
  exact ⟨nI_is (by omega) (by omega), h3⟩
theorem ag_m {M : fmM} {D : dD} {S : aS} {i : Nat} (hs : xst M D S) (hi : i < D.1) (h : M.1 48 i = -1) : S.2 i = -1 := by
  have h1 := ag_x hs hi
  rw [h] at h1
  exact h1.symm.trans (by decide)
end
