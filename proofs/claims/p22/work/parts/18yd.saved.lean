-- STATES KEPT
/-- cells of a state: the object, its ages -/
abbrev stC (k a : Nat) : Prop := k < 190 ∧ Tx.2.1 k = 12 ∧ Tx.2.2.1 k = 7 ∧ Tx.2.2.2 k 0 = a ∧ a < 190 ∧ Tx.2.1 a = 0 ∧ Tx.2.2.1 a = 8
/-- cells of a shelf -/
abbrev shO (z : Nat) : Prop := z < 4 ∧ Tx.2.1 (46 + 36 * z) = 11 ∧ Tx.2.2.1 (46 + 36 * z) = 3 ∧ Tx.2.2.2 (46 + 36 * z) 0 = 47 + 36 * z ∧ Tx.2.2.2 (46 + 36 * z) 1 = 49 + 36 * z ∧ Tx.2.1 (49 + 36 * z) = 4 ∧ Tx.2.2.1 (49 + 36 * z) = 16 ∧ ∀ w, w < 16 → Tx.2.2.2 (49 + 36 * z) w = 50 + 36 * z + w
theorem ho_all : ∀ z, z < 4 → shO z := by decide +kernel
theorem so_n : ∀ z, z < 4 → stC (47 + 36 * z) (48 + 36 * z) := by decide +kernel
theorem so_now {z : Nat} (h : z < 4) : stC (47 + 36 * z) (48 + 36 * z) := so_n z h
theorem so_b : ∀ z, z < 4 → ∀ w, w < 16 → stC (50 + 36 * z + w) (66 + 36 * z + w) := by decide +kernel
theorem so_bef {z w : Nat} (h : z < 4) (hw : w < 16) : stC (50 + 36 * z + w) (66 + 36 * z + w) := so_b z h w hw
/-- a state as it stands in the cells k, a -/
def xsA (k a : Nat) (M : fmM) (D : dD) (S : aS) : Prop := (M.1 k 1).toInt = (S.1.2.2.1 : Int) ∧ (M.1 k 2).toInt = (S.1.1 : Int) ∧ (M.1 k 3).toInt = (S.1.2.1 : Int) ∧ (M.1 k 4).toInt = (S.1.2.2.2.1 : Int) ∧ (M.1 k 5).toInt = (S.1.2.2.2.2.1 : Int) ∧ (M.2 k 6).toInt = S.1.2.2.2.2.2 ∧ ∀ i, i < D.1 → (M.1 a i).toInt = S.2 i
theorem xst_A {M : fmM} {D : dD} {S : aS} : xst M D S ↔ xsA 47 48 M D S := Iff.rfl
/-- the state in d, da is as it was in s, sa -/
def smS (d da s sa : Nat) (M M' : fmM) : Prop := (∀ j, 1 ≤ j → j ≤ 5 → M'.1 d j = M.1 s j) ∧ M'.2 d 6 = M.2 s 6 ∧ ∀ i, i < 8 → M'.1 da i = M.1 sa i
theorem smS.st {d da s sa : Nat} {M M' : fmM} {D : dD} {S : aS} (h : smS d da s sa M M') (hD : D.1 ≤ 8) (hs : xsA s sa M D S) : xsA d da M' D S := by
  obtain ⟨a, b, c, e, f, g, i⟩ := hs
  exact ⟨by rw [h.1 1 (by decide) (by decide)]; exact a, by rw [h.1 2 (by decide) (by decide)]; exact b, by rw [h.1 3 (by decide) (by decide)]; exact c, by rw [h.1 4 (by decide) (by decide)]; exact e, by rw [h.1 5 (by decide) (by decide)]; exact f, by rw [h.2.1]; exact g, fun j hj => by rw [h.2.2 j (by omega)]; exact i j hj⟩
def cpR (d da s sa : Nat) (M M' : fmM) : Prop := smS d da s sa M M' ∧ (∀ k j, k ≠ d → k ≠ da → M'.1 k j = M.1 k j) ∧ ∀ k j, k ≠ d → M'.2 k j = M.2 k j
theorem smS.fr {d da s sa : Nat} {M M' M'' : fmM} (h : smS d da s sa M M') (h1 : ∀ j, M''.1 d j = M'.1 d j) (h2 : ∀ j, M''.1 da j = M'.1 da j) (h3 : M''.2 d 6 = M'.2 d 6) : smS d da s sa M M'' := ⟨fun j a b => (h1 j).trans (h.1 j a b), h3.trans h.2.1, fun i hi => (h2 i).trans (h.2.2 i hi)⟩
theorem smS.src {d da s sa : Nat} {M0 M M' : fmM} (h : smS d da s sa M M') (h1 : ∀ j, M.1 s j = M0.1 s j) (h2 : ∀ j, M.1 sa j = M0.1 sa j) (h3 : M.2 s 6 = M0.2 s 6) : smS d da s sa M0 M' := ⟨fun j a b => (h.1 j a b).trans (h1 j), h.2.1.trans h3, fun i hi => (h.2.2 i hi).trans (h2 i)⟩
def cpN (m : fmM) (d s : Nat) : Nat → fmM
  | 0 => m
  | n + 1 => fmI (cpN m d s n) d (n + 1) ((cpN m d s n).1 s (n + 1))
theorem cpN_at {m : fmM} {d s : Nat} (h : d ≠ s) : ∀ n k j, (cpN m d s n).1 k j = if k = d ∧ 1 ≤ j ∧ j ≤ n then m.1 s j else m.1 k j := by
  intro n
  induction n with
  | zero =>
    intro k j
    rw [if_neg (by omega)]
    rfl
  | succ n ih =>
    intro k j
    show (fmI (cpN m d s n) d (n + 1) ((cpN m d s n).1 s (n + 1))).1 k j = _
    rw [fmI_at]
    by_cases e : k = d ∧ j = n + 1
    · rw [if_pos e, if_pos ⟨e.1, by omega, by omega⟩, ih, if_neg (fun h9 => h h9.1.symm), e.2]
    · rw [if_neg e, ih]
      by_cases e2 : k = d ∧ 1 ≤ j ∧ j ≤ n
      · rw [if_pos e2, if_pos ⟨e2.1, e2.2.1, by omega⟩]
      · rw [if_neg e2, if_neg (by omega)]
theorem cpN_2 {m : fmM} {d s : Nat} : ∀ n, (cpN m d s n).2 = m.2 := by
  intro n
  induction n with
  | zero => rfl
  | succ n ih => exact ih
def cpZ (M : fmM) (d da s sa : Nat) : fmM := fmJ (cpN (cpA M da sa 8) d s 5) d 6 ((cpN (cpA M da sa 8) d s 5).2 s 6)
theorem cpA_at {M : fmM} {da sa k j : Nat} : (cpA M da sa 8).1 k j = if k = da ∧ j < 8 then M.1 sa j else M.1 k j := by
  have e : ∀ j, va_cpy (M.1 sa) (M.1 da) (Int32.toNatClampNeg 0) (Int32.toNatClampNeg 0) (Int32.toNatClampNeg 8) j = if j < 8 then M.1 sa j else M.1 da j := fun j => scq_cpy (M.1 sa) (M.1 da) 8 j
  unfold cpA
  by_cases h : k = da
  · subst h
    rw [fmA_ss, e]
    by_cases h8 : j < 8
    · rw [if_pos h8, if_pos ⟨rfl, h8⟩]
    · rw [if_neg h8, if_neg (fun h9 => h8 h9.2)]
  · rw [fmA_kk h, if_neg (fun h9 => h h9.1)]
theorem cpZ_R {M : fmM} {d da s sa : Nat} (h : d ≠ s ∧ d ≠ sa ∧ da ≠ s ∧ da ≠ sa ∧ d ≠ da) : cpR d da s sa M (cpZ M d da s sa) := by
  obtain ⟨h1, h2, h3, h4, h5⟩ := h
  have e1 : ∀ k j, (cpZ M d da s sa).1 k j = if k = d ∧ 1 ≤ j ∧ j ≤ 5 then (cpA M da sa 8).1 s j else (cpA M da sa 8).1 k j := fun k j => cpN_at h1 5 k j
  have e2 : ∀ k j, (cpZ M d da s sa).2 k j = if k = d then vp_updL (M.2 d) 6 (M.2 s 6) j else M.2 k j := fun k j => by
    show (if k = d then vp_updL ((cpN (cpA M da sa 8) d s 5).2 d) 6 ((cpN (cpA M da sa 8) d s 5).2 s 6) else (cpN (cpA M da sa 8) d s 5).2 k) j = _
    rw [cpN_2]
    by_cases h : k = d
    · rw [if_pos h, if_pos h]
      rfl
    · rw [if_neg h, if_neg h]
      rfl
  refine ⟨⟨fun j a b => ?_, ?_, fun i hi => ?_⟩, fun k j a b => ?_, fun k j a => ?_⟩
  · rw [e1, if_pos ⟨rfl, a, b⟩, cpA_at, if_neg (fun h9 => h3 h9.1.symm)]
  · rw [e2, if_pos rfl]
    simp [vp_updL]
  · rw [e1, if_neg (fun h9 => h5 h9.1.symm), cpA_at, if_pos ⟨rfl, hi⟩]
  · rw [e1, if_neg (fun h9 => a h9.1), cpA_at, if_neg (fun h9 => b h9.1)]
  · rw [e2, if_neg a]
set_option maxRecDepth 20000 in
theorem c_cpS {M : fmM} {Q : fmR → fmM → Prop} {d da s sa : Nat} (hd : stC d da) (hs : stC s sa) (hq : Q (.inl none) (cpZ M d da s sa)) : pvGood Tx 0 qX6_copyFrom [.ref d, .ref s] M Q := by
  refine pvGood_of (Nat.le_of_ble_eq_true rfl) ?_
  show pvEv Tx 0 qX6_copyFrom 0 [some (.ref d), some (.ref s)] [] M Q
  refine pv_aloadn (pc := 0) (n := 1) 1 rfl rfl (fm_dec dtX6_copyFrom 0 rfl) ?_
  refine pv_getR (k := (s)) (j := 0) (ci := 6) (pc := 1) (sa) hs.2.2.2.1 (by have := hs.2.2.2.2.1; omega) pfl_X6_9 hs.1 (hs.2.1.trans rfl) (by rw [hs.2.2.1]; decide) (fm_dec dtX6_copyFrom 1 rfl) ?_
  refine pv_iconst (pc := 4) (v := 0) (by decide) (fm_dec dtX6_copyFrom 2 rfl) ?_
  refine pv_aloadn (pc := 5) (n := 0) 0 rfl rfl (fm_dec dtX6_copyFrom 3 rfl) ?_
  refine pv_getR (k := (d)) (j := 0) (ci := 6) (pc := 6) (da) hd.2.2.2.1 (by have := hd.2.2.2.2.1; omega) pfl_X6_9 hd.1 (hd.2.1.trans rfl) (by rw [hd.2.2.1]; decide) (fm_dec dtX6_copyFrom 4 rfl) ?_
  refine pv_iconst (pc := 9) (v := 0) (by decide) (fm_dec dtX6_copyFrom 5 rfl) ?_
  refine pv_bipush (pc := 10) (v := 8) (by decide) (fm_dec dtX6_copyFrom 6 rfl) ?_
  refine pv_copy (k0 := (sa)) (k1 := (da)) (n0 := 8) (n1 := 8) (pc := 12) pcm_X6_20 pcc_X6_20 hs.2.2.2.2.1 hs.2.2.2.2.2.1 hs.2.2.2.2.2.2 hd.2.2.2.2.1 hd.2.2.2.2.2.1 hd.2.2.2.2.2.2 (by decide) (by decide) (by decide) (by decide) (by decide) (Nat.le_of_ble_eq_true rfl) (fm_dec dtX6_copyFrom 7 rfl) ?_
  show pvEv Tx 0 qX6_copyFrom _ _ _ (cpA M da sa 8) Q
  refine pv_aloadn (pc := 15) (n := 0) 0 rfl rfl (fm_dec dtX6_copyFrom 8 rfl) ?_
  refine pv_aloadn (pc := 16) (n := 1) 1 rfl rfl (fm_dec dtX6_copyFrom 9 rfl) ?_
  refine pv_getI (k := (s)) (j := 1) (ci := 6) (pc := 17) pfl_X6_26 hs.1 (hs.2.1.trans rfl) (by rw [hs.2.2.1]; decide) (fm_dec dtX6_copyFrom 10 rfl) ?_
  refine pv_putI (k := (d)) (j := 1) (ci := 6) (pc := 20) pfl_X6_26 hd.1 (hd.2.1.trans rfl) (by rw [hd.2.2.1]; decide) (fm_dec dtX6_copyFrom 11 rfl) ?_
  show pvEv Tx 0 qX6_copyFrom _ _ _ (cpN (cpA M da sa 8) d s 1) Q
  refine pv_aloadn (pc := 23) (n := 0) 0 rfl rfl (fm_dec dtX6_copyFrom 12 rfl) ?_
  refine pv_aloadn (pc := 24) (n := 1) 1 rfl rfl (fm_dec dtX6_copyFrom 13 rfl) ?_
  refine pv_getI (k := (s)) (j := 2) (ci := 6) (pc := 25) pfl_X6_30 hs.1 (hs.2.1.trans rfl) (by rw [hs.2.2.1]; decide) (fm_dec dtX6_copyFrom 14 rfl) ?_
  refine pv_putI (k := (d)) (j := 2) (ci := 6) (pc := 28) pfl_X6_30 hd.1 (hd.2.1.trans rfl) (by rw [hd.2.2.1]; decide) (fm_dec dtX6_copyFrom 15 rfl) ?_
  show pvEv Tx 0 qX6_copyFrom _ _ _ (cpN (cpA M da sa 8) d s 2) Q
  refine pv_aloadn (pc := 31) (n := 0) 0 rfl rfl (fm_dec dtX6_copyFrom 16 rfl) ?_
  refine pv_aloadn (pc := 32) (n := 1) 1 rfl rfl (fm_dec dtX6_copyFrom 17 rfl) ?_
  refine pv_getI (k := (s)) (j := 3) (ci := 6) (pc := 33) pfl_X6_36 hs.1 (hs.2.1.trans rfl) (by rw [hs.2.2.1]; decide) (fm_dec dtX6_copyFrom 18 rfl) ?_
  refine pv_putI (k := (d)) (j := 3) (ci := 6) (pc := 36) pfl_X6_36 hd.1 (hd.2.1.trans rfl) (by rw [hd.2.2.1]; decide) (fm_dec dtX6_copyFrom 19 rfl) ?_
  show pvEv Tx 0 qX6_copyFrom _ _ _ (cpN (cpA M da sa 8) d s 3) Q
  refine pv_aloadn (pc := 39) (n := 0) 0 rfl rfl (fm_dec dtX6_copyFrom 20 rfl) ?_
  refine pv_aloadn (pc := 40) (n := 1) 1 rfl rfl (fm_dec dtX6_copyFrom 21 rfl) ?_
  refine pv_getI (k := (s)) (j := 4) (ci := 6) (pc := 41) pfl_X6_39 hs.1 (hs.2.1.trans rfl) (by rw [hs.2.2.1]; decide) (fm_dec dtX6_copyFrom 22 rfl) ?_
  refine pv_putI (k := (d)) (j := 4) (ci := 6) (pc := 44) pfl_X6_39 hd.1 (hd.2.1.trans rfl) (by rw [hd.2.2.1]; decide) (fm_dec dtX6_copyFrom 23 rfl) ?_
  show pvEv Tx 0 qX6_copyFrom _ _ _ (cpN (cpA M da sa 8) d s 4) Q
  refine pv_aloadn (pc := 47) (n := 0) 0 rfl rfl (fm_dec dtX6_copyFrom 24 rfl) ?_
  refine pv_aloadn (pc := 48) (n := 1) 1 rfl rfl (fm_dec dtX6_copyFrom 25 rfl) ?_
  refine pv_getI (k := (s)) (j := 5) (ci := 6) (pc := 49) pfl_X6_42 hs.1 (hs.2.1.trans rfl) (by rw [hs.2.2.1]; decide) (fm_dec dtX6_copyFrom 26 rfl) ?_
  refine pv_putI (k := (d)) (j := 5) (ci := 6) (pc := 52) pfl_X6_42 hd.1 (hd.2.1.trans rfl) (by rw [hd.2.2.1]; decide) (fm_dec dtX6_copyFrom 27 rfl) ?_
  show pvEv Tx 0 qX6_copyFrom _ _ _ (cpN (cpA M da sa 8) d s 5) Q
  refine pv_aloadn (pc := 55) (n := 0) 0 rfl rfl (fm_dec dtX6_copyFrom 28 rfl) ?_
  refine pv_aloadn (pc := 56) (n := 1) 1 rfl rfl (fm_dec dtX6_copyFrom 29 rfl) ?_
  refine pv_getJ (k := (s)) (j := 6) (ci := 6) (pc := 57) pfl_X6_45 hs.1 (hs.2.1.trans rfl) (by rw [hs.2.2.1]; decide) (fm_dec dtX6_copyFrom 30 rfl) ?_
  refine pv_putJ (k := (d)) (j := 6) (ci := 6) (pc := 60) pfl_X6_45 hd.1 (hd.2.1.trans rfl) (by rw [hd.2.2.1]; decide) (fm_dec dtX6_copyFrom 31 rfl) ?_
  show pvEv Tx 0 qX6_copyFrom _ _ _ (cpZ M d da s sa) Q
  exact pv_return (pc := 63) rfl (fm_dec dtX6_copyFrom 32 rfl) hq
theorem cp_S {M : fmM} {Q : fmR → fmM → Prop} {d da s sa : Nat} (hd : stC d da) (hs : stC s sa) (hne : d ≠ s ∧ d ≠ sa ∧ da ≠ s ∧ da ≠ sa ∧ d ≠ da) (hq : ∀ M' : fmM, cpR d da s sa M M' → Q (.inl none) M') : pvGood Tx 0 qX6_copyFrom [.ref d, .ref s] M Q := c_cpS hd hs (hq _ (cpZ_R hne))
/-- a shelf as another was: z1 is written, z2 is read -/
def shC (z1 z2 n : Nat) (M M' : fmM) : Prop := smS (47 + 36 * z1) (48 + 36 * z1) (47 + 36 * z2) (48 + 36 * z2) M M' ∧ M'.1 (46 + 36 * z1) 2 = M.1 (46 + 36 * z2) 2 ∧ (∀ w, w < n → w < 16 → smS (50 + 36 * z1 + w) (66 + 36 * z1 + w) (50 + 36 * z2 + w) (66 + 36 * z2 + w) M M') ∧ ∀ k, ¬ (46 + 36 * z1 ≤ k ∧ k < 82 + 36 * z1) → ∀ j, M'.1 k j = M.1 k j ∧ M'.2 k j = M.2 k j
theorem shC.next {z1 z2 n : Nat} {M0 M M' : fmM} (hz : z1 ≠ z2) (hn : n < 16) (h : shC z1 z2 n M0 M) (hc : cpR (50 + 36 * z1 + n) (66 + 36 * z1 + n) (50 + 36 * z2 + n) (66 + 36 * z2 + n) M M') : shC z1 z2 (n + 1) M0 M' := by
  obtain ⟨h1, h2, h3, h4⟩ := h
  obtain ⟨c1, c2, c3⟩ := hc
  refine ⟨h1.fr (fun j => c2 _ j (by omega) (by omega)) (fun j => c2 _ j (by omega) (by omega)) (c3 _ _ (by omega)), (c2 _ _ (by omega) (by omega)).trans h2, fun w hw hw16 => ?_, fun k hk j => ⟨(c2 k j (by omega) (by omega)).trans (h4 k hk j).1, (c3 k j (by omega)).trans (h4 k hk j).2⟩⟩
  by_cases e : w = n
  · subst e
    exact c1.src (fun j => (h4 _ (by omega) j).1) (fun j => (h4 _ (by omega) j).1) (h4 _ (by omega) 6).2
  · exact (h3 w (by omega) hw16).fr (fun j => c2 _ j (by omega) (by omega)) (fun j => c2 _ j (by omega) (by omega)) (c3 _ _ (by omega))
set_option maxRecDepth 20000 in
theorem shc_loop {Q : fmR → fmM → Prop} {z1 z2 : Nat} {M0 : fmM} (h1 : shO z1) (h2 : shO z2) (hz : z1 ≠ z2) (hq : ∀ (M' : fmM) (n : Nat), shC z1 z2 n M0 M' → (M'.1 (46 + 36 * z1) 2).toInt ≤ (n : Int) ∨ 16 ≤ n → Q (.inl none) M') : ∀ (m : Nat) (n : Nat) (M : fmM), n ≤ 16 → 16 - n = m → shC z1 z2 n M0 M → pvEv Tx 1 qX5_copyFrom 21 [some (.ref (46 + 36 * z1)), some (.ref (46 + 36 * z2)), some (.int (nI n))] [] M Q := by
  intro m
  induction m using Nat.strongRecOn with
  | _ m ih =>
    intro n M hn16 hm hK
    have hn9 : (nI n).toInt = (n : Int) := nI_toInt (by omega)
    refine pv_iloadn (pc := 21) (n := 2) 2 rfl rfl (fm_dec dtX5_copyFrom 11 rfl) ?_
    refine pv_aloadn (pc := 22) (n := 0) 0 rfl rfl (fm_dec dtX5_copyFrom 12 rfl) ?_
    refine pv_getI (k := (46 + 36 * z1)) (j := 2) (ci := 5) (pc := 23) pfl_X5_22 (show 46 + 36 * z1 < 190 by have := h1.1; omega) (h1.2.1.trans rfl) (by rw [h1.2.2.1]; decide) (fm_dec dtX5_copyFrom 13 rfl) ?_
    refine pv_icmp_ge (pc := 26) 56 (by decide) (fm_dec dtX5_copyFrom 14 rfl) (fun hc26 => ?_) (fun hc26 => ?_)
    · exact pv_return (pc := 56) rfl (fm_dec dtX5_copyFrom 29 rfl) (hq M n hK (by rw [sc_le] at hc26; omega))
    · refine pv_iloadn (pc := 29) (n := 2) 2 rfl rfl (fm_dec dtX5_copyFrom 15 rfl) ?_
      refine pv_bipush (pc := 30) (v := 16) (by decide) (fm_dec dtX5_copyFrom 16 rfl) ?_
      refine pv_icmp_ge (pc := 32) 56 (by decide) (fm_dec dtX5_copyFrom 17 rfl) (fun hc32 => ?_) (fun hc32 => ?_)
      · exact pv_return (pc := 56) rfl (fm_dec dtX5_copyFrom 29 rfl) (hq M n hK (by rw [sc_le] at hc32; have z16 : (16 : Int32).toInt = 16 := (by decide); omega))
      · have hn : n < 16 := (by rw [sc_le] at hc32; have z16 : (16 : Int32).toInt = 16 := (by decide); omega)
        refine pv_aloadn (pc := 35) (n := 0) 0 rfl rfl (fm_dec dtX5_copyFrom 18 rfl) ?_
        refine pv_getR (k := (46 + 36 * z1)) (j := 1) (ci := 5) (pc := 36) (49 + 36 * z1) h1.2.2.2.2.1 (by have := h1.1; omega) pfl_X5_18 (show 46 + 36 * z1 < 190 by have := h1.1; omega) (h1.2.1.trans rfl) (by rw [h1.2.2.1]; decide) (fm_dec dtX5_copyFrom 19 rfl) ?_
        refine pv_iloadn (pc := 39) (n := 2) 2 rfl rfl (fm_dec dtX5_copyFrom 20 rfl) ?_
        refine pv_aald (k := (49 + 36 * z1)) (n := 16) (r := (50 + 36 * z1 + n)) (pc := 40) (show 49 + 36 * z1 < 190 by have := h1.1; omega) (Or.inr (Or.inl h1.2.2.2.2.2.1)) h1.2.2.2.2.2.2.1 (ix_in hn9 hn) (by rw [i32_cl hn9]; exact h1.2.2.2.2.2.2.2 n hn) (by have := h1.1; omega) (fm_dec dtX5_copyFrom 21 rfl) ?_
        refine pv_aloadn (pc := 41) (n := 1) 1 rfl rfl (fm_dec dtX5_copyFrom 22 rfl) ?_
        refine pv_getR (k := (46 + 36 * z2)) (j := 1) (ci := 5) (pc := 42) (49 + 36 * z2) h2.2.2.2.2.1 (by have := h2.1; omega) pfl_X5_18 (show 46 + 36 * z2 < 190 by have := h2.1; omega) (h2.2.1.trans rfl) (by rw [h2.2.2.1]; decide) (fm_dec dtX5_copyFrom 23 rfl) ?_
        refine pv_iloadn (pc := 45) (n := 2) 2 rfl rfl (fm_dec dtX5_copyFrom 24 rfl) ?_
        refine pv_aald (k := (49 + 36 * z2)) (n := 16) (r := (50 + 36 * z2 + n)) (pc := 46) (show 49 + 36 * z2 < 190 by have := h2.1; omega) (Or.inr (Or.inl h2.2.2.2.2.2.1)) h2.2.2.2.2.2.2.1 (ix_in hn9 hn) (by rw [i32_cl hn9]; exact h2.2.2.2.2.2.2.2 n hn) (by have := h2.1; omega) (fm_dec dtX5_copyFrom 25 rfl) ?_
        refine pv_invV1 (k := (50 + 36 * z1 + n)) (d' := 0) (pc := 47) pcv_X5_26 (show 50 + 36 * z1 + n < 190 by have := h1.1; omega) ((so_bef h1.1 hn).2.1.trans rfl) (Nat.le_of_ble_eq_true rfl) (by decide) (fm_dec dtX5_copyFrom 26 rfl) ?_
        refine cp_S (so_bef h1.1 hn) (so_bef h2.1 hn) ⟨by omega, by omega, by omega, by omega, by omega⟩ (fun M47 c47 => ?_) 
        refine pv_then0 ?_
        refine pv_iincc (pc := 50) 2 1 (by decide) rfl (by decide) rfl (fm_dec dtX5_copyFrom 27 rfl) ?_
        dsimp only [List.set_cons_zero, List.set_cons_succ]
        refine pv_goto (pc := 53) 21 (by decide) (fm_dec dtX5_copyFrom 28 rfl) ?_
        rw [nI_succ1]
        exact ih (16 - (n + 1)) (by omega) (n + 1) M47 (by omega) rfl (hK.next hz hn c47)
theorem shC.all {z1 z2 n : Nat} {M M' : fmM} (h : shC z1 z2 n M M') (hn : (M'.1 (46 + 36 * z1) 2).toInt ≤ (n : Int) ∨ 16 ≤ n) : ∀ w : Nat, (w : Int) < (M.1 (46 + 36 * z2) 2).toInt → w < 16 → smS (50 + 36 * z1 + w) (66 + 36 * z1 + w) (50 + 36 * z2 + w) (66 + 36 * z2 + w) M M' := fun w hw h16 => h.2.2.1 w (by have e := congrArg Int32.toInt h.2.1; omega) h16
set_option maxRecDepth 20000 in
theorem c_shc {M : fmM} {Q : fmR → fmM → Prop} {z1 z2 : Nat} (h1 : shO z1) (h2 : shO z2) (hz : z1 ≠ z2) (hq : ∀ (M' : fmM) (n : Nat), shC z1 z2 n M M' → (M'.1 (46 + 36 * z1) 2).toInt ≤ (n : Int) ∨ 16 ≤ n → Q (.inl none) M') : pvGood Tx 1 qX5_copyFrom [.ref (46 + 36 * z1), .ref (46 + 36 * z2)] M Q := by
  refine pvGood_of (Nat.le_of_ble_eq_true rfl) ?_
  show pvEv Tx 1 qX5_copyFrom 0 [some (.ref (46 + 36 * z1)), some (.ref (46 + 36 * z2)), none] [] M Q
  refine pv_aloadn (pc := 0) (n := 0) 0 rfl rfl (fm_dec dtX5_copyFrom 0 rfl) ?_
  refine pv_getR (k := (46 + 36 * z1)) (j := 0) (ci := 5) (pc := 1) (47 + 36 * z1) h1.2.2.2.1 (by have := h1.1; omega) pfl_X5_12 (show 46 + 36 * z1 < 190 by have := h1.1; omega) (h1.2.1.trans rfl) (by rw [h1.2.2.1]; decide) (fm_dec dtX5_copyFrom 1 rfl) ?_
  refine pv_aloadn (pc := 4) (n := 1) 1 rfl rfl (fm_dec dtX5_copyFrom 2 rfl) ?_
  refine pv_getR (k := (46 + 36 * z2)) (j := 0) (ci := 5) (pc := 5) (47 + 36 * z2) h2.2.2.2.1 (by have := h2.1; omega) pfl_X5_12 (show 46 + 36 * z2 < 190 by have := h2.1; omega) (h2.2.1.trans rfl) (by rw [h2.2.2.1]; decide) (fm_dec dtX5_copyFrom 3 rfl) ?_
  refine pv_invV1 (k := (47 + 36 * z1)) (d' := 0) (pc := 8) pcv_X5_26 (show 47 + 36 * z1 < 190 by have := h1.1; omega) ((so_now h1.1).2.1.trans rfl) (Nat.le_of_ble_eq_true rfl) (by decide) (fm_dec dtX5_copyFrom 4 rfl) ?_
  refine cp_S (so_now h1.1) (so_now h2.1) ⟨by omega, by omega, by omega, by omega, by omega⟩ (fun M8 c8 => ?_) 
  refine pv_then0 ?_
  refine pv_aloadn (pc := 11) (n := 0) 0 rfl rfl (fm_dec dtX5_copyFrom 5 rfl) ?_
  refine pv_aloadn (pc := 12) (n := 1) 1 rfl rfl (fm_dec dtX5_copyFrom 6 rfl) ?_
  refine pv_getI (k := (46 + 36 * z2)) (j := 2) (ci := 5) (pc := 13) pfl_X5_22 (show 46 + 36 * z2 < 190 by have := h2.1; omega) (h2.2.1.trans rfl) (by rw [h2.2.2.1]; decide) (fm_dec dtX5_copyFrom 7 rfl) ?_
  refine pv_putI (k := (46 + 36 * z1)) (j := 2) (ci := 5) (pc := 16) pfl_X5_22 (show 46 + 36 * z1 < 190 by have := h1.1; omega) (h1.2.1.trans rfl) (by rw [h1.2.2.1]; decide) (fm_dec dtX5_copyFrom 8 rfl) ?_
  refine pv_iconst (pc := 19) (v := 0) (by decide) (fm_dec dtX5_copyFrom 9 rfl) ?_
  refine pv_istoren (pc := 20) (n := 2) 2 rfl (by decide) rfl (fm_dec dtX5_copyFrom 10 rfl) ?_
  dsimp only [List.set_cons_zero, List.set_cons_succ]
  exact shc_loop h1 h2 hz hq 16 0 _ (by decide) rfl ⟨c8.1.fr (fun j => by rw [fmI_k _ _ (by omega)]) (fun j => by rw [fmI_k _ _ (by omega)]) rfl, by rw [fmI_s]; exact c8.2.1 _ _ (by omega) (by omega), fun w hw => absurd hw (Nat.not_lt_zero _), fun k hk j => ⟨by rw [fmI_k _ _ (by omega)]; exact c8.2.1 k j (by omega) (by omega), c8.2.2 k j (by omega)⟩⟩
set_option maxRecDepth 20000 in
theorem c_keepS {M : fmM} {Q : fmR → fmM → Prop} {w : Nat} (hw : (M.1 46 2).toInt = (w : Int)) (h16 : w < 16) (hq : ∀ M' : fmM, cpR (50 + w) (66 + w) 47 48 M M' → Q (.inl none) (fmI M' 46 2 (M.1 46 2 + 1))) : pvGood Tx 1 qX5_keep [.ref 46] M Q := by
  refine pvGood_of (Nat.le_of_ble_eq_true rfl) ?_
  show pvEv Tx 1 qX5_keep 0 [some (.ref 46)] [] M Q
  refine pv_aloadn (pc := 0) (n := 0) 0 rfl rfl (fm_dec dtX5_keep 0 rfl) ?_
  refine pv_getI (k := 46) (j := 2) (ci := 5) (pc := 1) pfl_X5_22 (by decide) rfl (by decide) (fm_dec dtX5_keep 1 rfl) ?_
  refine pv_if_lt (pc := 4) 42 (by decide) (fm_dec dtX5_keep 2 rfl) (fun hc4 => by exfalso; rw [sc_lt] at hc4; have z0 : (0 : Int32).toInt = 0 := (by decide); omega) (fun _ => ?_)
  refine pv_aloadn (pc := 7) (n := 0) 0 rfl rfl (fm_dec dtX5_keep 3 rfl) ?_
  refine pv_getI (k := 46) (j := 2) (ci := 5) (pc := 8) pfl_X5_22 (by decide) rfl (by decide) (fm_dec dtX5_keep 4 rfl) ?_
  refine pv_bipush (pc := 11) (v := 16) (by decide) (fm_dec dtX5_keep 5 rfl) ?_
  refine pv_icmp_ge (pc := 13) 42 (by decide) (fm_dec dtX5_keep 6 rfl) (fun hc13 => by exfalso; rw [sc_le] at hc13; have z16 : (16 : Int32).toInt = 16 := (by decide); omega) (fun _ => ?_)
  refine pv_aloadn (pc := 16) (n := 0) 0 rfl rfl (fm_dec dtX5_keep 7 rfl) ?_
  refine pv_getR (k := 46) (j := 1) (ci := 5) (pc := 17) 49 rfl (by decide) pfl_X5_18 (by decide) rfl (by decide) (fm_dec dtX5_keep 8 rfl) ?_
  refine pv_aloadn (pc := 20) (n := 0) 0 rfl rfl (fm_dec dtX5_keep 9 rfl) ?_
  refine pv_getI (k := 46) (j := 2) (ci := 5) (pc := 21) pfl_X5_22 (by decide) rfl (by decide) (fm_dec dtX5_keep 10 rfl) ?_
  refine pv_aald (k := 49) (n := 16) (r := (50 + w)) (pc := 24) (by decide) (Or.inr (Or.inl rfl)) rfl (ix_in hw h16) (by rw [i32_cl hw]; exact (ho_all 0 (by decide)).2.2.2.2.2.2.2 w (by omega)) (by omega) (fm_dec dtX5_keep 11 rfl) ?_
  refine pv_aloadn (pc := 25) (n := 0) 0 rfl rfl (fm_dec dtX5_keep 12 rfl) ?_
  refine pv_getR (k := 46) (j := 0) (ci := 5) (pc := 26) 47 rfl (by decide) pfl_X5_12 (by decide) rfl (by decide) (fm_dec dtX5_keep 13 rfl) ?_
  refine pv_invV1 (k := (50 + w)) (d' := 0) (pc := 29) pcv_X5_26 (show 50 + w < 190 by omega) ((so_bef (z := 0) (by decide) (show w < 16 by omega)).2.1.trans rfl) (Nat.le_of_ble_eq_true rfl) (by decide) (fm_dec dtX5_keep 14 rfl) ?_
  refine cp_S (so_bef (z := 0) (by decide) h16) (so_now (z := 0) (by decide)) ⟨by omega, by omega, by omega, by omega, by omega⟩ (fun M29 c29 => ?_) 
  refine pv_then0 ?_
  refine pv_aloadn (pc := 32) (n := 0) 0 rfl rfl (fm_dec dtX5_keep 15 rfl) ?_
  refine pv_dup (pc := 33) rfl (fm_dec dtX5_keep 16 rfl) ?_
  refine pv_getI (k := 46) (j := 2) (ci := 5) (pc := 34) pfl_X5_22 (by decide) rfl (by decide) (fm_dec dtX5_keep 17 rfl) ?_
  refine pv_iconst (pc := 37) (v := 1) (by decide) (fm_dec dtX5_keep 18 rfl) ?_
  refine pv_iadd (pc := 38) (fm_dec dtX5_keep 19 rfl) ?_
  refine pv_putI (k := 46) (j := 2) (ci := 5) (pc := 39) pfl_X5_22 (by decide) rfl (by decide) (fm_dec dtX5_keep 20 rfl) ?_
  exact pv_return (pc := 42) rfl (fm_dec dtX5_keep 21 rfl) (by have h9 := hq M29 c29; rw [← c29.2.1 46 2 (by omega) (by omega)] at h9; exact h9)
set_option maxRecDepth 20000 in
theorem c_gbS {M : fmM} {Q : fmR → fmM → Prop} {w : Nat} (hw : (M.1 46 2).toInt = (w : Int)) (h0 : 0 < w) (h16 : w ≤ 16) (hq : ∀ M' : fmM, cpR 47 48 (50 + (w - 1)) (66 + (w - 1)) (fmI M 46 2 (M.1 46 2 - 1)) M' → Q (.inl none) M') : pvGood Tx 1 qX5_goBack [.ref 46] M Q := by
  refine pvGood_of (Nat.le_of_ble_eq_true rfl) ?_
  show pvEv Tx 1 qX5_goBack 0 [some (.ref 46)] [] M Q
  have e1 : (M.1 46 2 - 1).toInt = ((w - 1 : Nat) : Int) := (by have z1 : (1 : Int32).toInt = 1 := (by decide); rw [sc_sub (by omega) (by omega)]; omega)
  refine pv_aloadn (pc := 0) (n := 0) 0 rfl rfl (fm_dec dtX5_goBack 0 rfl) ?_
  refine pv_getI (k := 46) (j := 2) (ci := 5) (pc := 1) pfl_X5_22 (by decide) rfl (by decide) (fm_dec dtX5_goBack 1 rfl) ?_
  refine pv_if_le (pc := 4) 42 (by decide) (fm_dec dtX5_goBack 2 rfl) (fun hc4 => by exfalso; rw [sc_le] at hc4; have z0 : (0 : Int32).toInt = 0 := (by decide); omega) (fun _ => ?_)
  refine pv_aloadn (pc := 7) (n := 0) 0 rfl rfl (fm_dec dtX5_goBack 3 rfl) ?_
  refine pv_getI (k := 46) (j := 2) (ci := 5) (pc := 8) pfl_X5_22 (by decide) rfl (by decide) (fm_dec dtX5_goBack 4 rfl) ?_
  refine pv_bipush (pc := 11) (v := 16) (by decide) (fm_dec dtX5_goBack 5 rfl) ?_
  refine pv_icmp_gt (pc := 13) 42 (by decide) (fm_dec dtX5_goBack 6 rfl) (fun hc13 => by exfalso; rw [sc_lt] at hc13; have z16 : (16 : Int32).toInt = 16 := (by decide); omega) (fun _ => ?_)
  refine pv_aloadn (pc := 16) (n := 0) 0 rfl rfl (fm_dec dtX5_goBack 7 rfl) ?_
  refine pv_dup (pc := 17) rfl (fm_dec dtX5_goBack 8 rfl) ?_
  refine pv_getI (k := 46) (j := 2) (ci := 5) (pc := 18) pfl_X5_22 (by decide) rfl (by decide) (fm_dec dtX5_goBack 9 rfl) ?_
  refine pv_iconst (pc := 21) (v := 1) (by decide) (fm_dec dtX5_goBack 10 rfl) ?_
  refine pv_isub (pc := 22) (fm_dec dtX5_goBack 11 rfl) ?_
  refine pv_putI (k := 46) (j := 2) (ci := 5) (pc := 23) pfl_X5_22 (by decide) rfl (by decide) (fm_dec dtX5_goBack 12 rfl) ?_
  refine pv_aloadn (pc := 26) (n := 0) 0 rfl rfl (fm_dec dtX5_goBack 13 rfl) ?_
  refine pv_getR (k := 46) (j := 0) (ci := 5) (pc := 27) 47 rfl (by decide) pfl_X5_12 (by decide) rfl (by decide) (fm_dec dtX5_goBack 14 rfl) ?_
  refine pv_aloadn (pc := 30) (n := 0) 0 rfl rfl (fm_dec dtX5_goBack 15 rfl) ?_
  refine pv_getR (k := 46) (j := 1) (ci := 5) (pc := 31) 49 rfl (by decide) pfl_X5_18 (by decide) rfl (by decide) (fm_dec dtX5_goBack 16 rfl) ?_
  refine pv_aloadn (pc := 34) (n := 0) 0 rfl rfl (fm_dec dtX5_goBack 17 rfl) ?_
  refine pv_getI (k := 46) (j := 2) (ci := 5) (pc := 35) pfl_X5_22 (by decide) rfl (by decide) (fm_dec dtX5_goBack 18 rfl) ?_
  refine pv_aald (k := 49) (n := 16) (r := (50 + (w - 1))) (pc := 38) (by decide) (Or.inr (Or.inl rfl)) rfl (ix_in e1 (by omega)) (by rw [fmI_s, i32_cl e1]; exact (ho_all 0 (by decide)).2.2.2.2.2.2.2 (w - 1) (by omega)) (by omega) (fm_dec dtX5_goBack 19 rfl) ?_
  refine pv_invV1 (k := 47) (d' := 0) (pc := 39) pcv_X5_26 (by decide) rfl (Nat.le_of_ble_eq_true rfl) (by decide) (fm_dec dtX5_goBack 20 rfl) ?_
  refine cp_S (so_now (z := 0) (by decide)) (so_bef (z := 0) (by decide) (show w - 1 < 16 by omega)) ⟨by omega, by omega, by omega, by omega, by omega⟩ (fun M39 c39 => ?_) 
  refine pv_then0 ?_
  exact pv_return (pc := 42) rfl (fm_dec dtX5_goBack 21 rfl) (hq M39 c39)
/-- a shelf, all of it, as another was -/
def shA (z1 z2 : Nat) (M M' : fmM) : Prop := smS (47 + 36 * z1) (48 + 36 * z1) (47 + 36 * z2) (48 + 36 * z2) M M' ∧ M'.1 (46 + 36 * z1) 2 = M.1 (46 + 36 * z2) 2 ∧ (∀ w : Nat, (w : Int) < (M.1 (46 + 36 * z2) 2).toInt → w < 16 → smS (50 + 36 * z1 + w) (66 + 36 * z1 + w) (50 + 36 * z2 + w) (66 + 36 * z2 + w) M M') ∧ ∀ k, ¬ (46 + 36 * z1 ≤ k ∧ k < 82 + 36 * z1) → ∀ j, M'.1 k j = M.1 k j ∧ M'.2 k j = M.2 k j
theorem c_shA {M : fmM} {Q : fmR → fmM → Prop} {z1 z2 : Nat} (h1 : z1 < 4) (h2 : z2 < 4) (hz : z1 ≠ z2) (hq : ∀ M' : fmM, shA z1 z2 M M' → Q (.inl none) M') : pvGood Tx 1 qX5_copyFrom [.ref (46 + 36 * z1), .ref (46 + 36 * z2)] M Q := c_shc (ho_all z1 h1) (ho_all z2 h2) hz (fun M' n h hn => hq M' ⟨h.1, h.2.1, h.all hn, h.2.2.2⟩)
set_option maxRecDepth 20000 in
theorem c_ximS {M : fmM} {Q : fmR → fmM → Prop} {i : Nat} (hi : (M.1 0 13).toInt = (i : Int)) (h4 : i ≤ 3) (hn : i = 3 → Q (.inl (some (.int (-1)))) M) (hq : i < 3 → ∀ (M1 : fmM), shA (1 + i) 0 M M1 → Q (.inl (some (.int (M.1 0 13 + 1)))) (fmI M1 0 13 (M.1 0 13 + 1))) : pvGood Tx 2 qX10_image [.ref 0] M Q := by
  refine pvGood_of (Nat.le_of_ble_eq_true rfl) ?_
  show pvEv Tx 2 qX10_image 0 [some (.ref 0)] [] M Q
  refine pv_aloadn (pc := 0) (n := 0) 0 rfl rfl (fm_dec dtX10_image 0 rfl) ?_
  refine pv_getI (k := 0) (j := 13) (ci := 10) (pc := 1) pfl_X10_129 (by decide) rfl (by decide) (fm_dec dtX10_image 1 rfl) ?_
  refine pv_iconst (pc := 4) (v := 3) (by decide) (fm_dec dtX10_image 2 rfl) ?_
  refine pv_icmp_lt (pc := 5) 10 (by decide) (fm_dec dtX10_image 3 rfl) (fun hc5 => ?_) (fun hc5 => ?_)
  · have z3 : (3 : Int32).toInt = 3 := (by decide)
    have h3 : i < 3 := (by rw [sc_lt] at hc5; omega)
    refine pv_aloadn (pc := 10) (n := 0) 0 rfl rfl (fm_dec dtX10_image 6 rfl) ?_
    refine pv_getR (k := 0) (j := 10) (ci := 10) (pc := 11) 43 rfl (by decide) pfl_X10_79 (by decide) rfl (by decide) (fm_dec dtX10_image 7 rfl) ?_
    refine pv_aloadn (pc := 14) (n := 0) 0 rfl rfl (fm_dec dtX10_image 8 rfl) ?_
    refine pv_getI (k := 0) (j := 13) (ci := 10) (pc := 15) pfl_X10_129 (by decide) rfl (by decide) (fm_dec dtX10_image 9 rfl) ?_
    refine pv_aald (k := 43) (n := 3) (r := (46 + 36 * (1 + i))) (pc := 18) (by decide) (Or.inl rfl) rfl (ix_in hi h3) (by have h9 := xi_at hi h3; rw [show 46 + 36 * (1 + i) = 82 + 36 * i by omega]; exact h9) (by omega) (fm_dec dtX10_image 10 rfl) ?_
    refine pv_aloadn (pc := 19) (n := 0) 0 rfl rfl (fm_dec dtX10_image 11 rfl) ?_
    refine pv_getR (k := 0) (j := 9) (ci := 10) (pc := 20) 46 rfl (by decide) pfl_X10_75 (by decide) rfl (by decide) (fm_dec dtX10_image 12 rfl) ?_
    refine pv_invV1 (k := (46 + 36 * (1 + i))) (d' := 1) (pc := 23) pcv_X10_360 (show 46 + 36 * (1 + i) < 190 by omega) ((ho_all (1 + i) (by omega)).2.1.trans rfl) (Nat.le_of_ble_eq_true rfl) (by decide) (fm_dec dtX10_image 13 rfl) ?_
    refine c_shA (z1 := 1 + i) (z2 := 0) (by omega) (by decide) (by omega) (fun M23 k23 => ?_) 
    refine pv_then0 ?_
    refine pv_aloadn (pc := 26) (n := 0) 0 rfl rfl (fm_dec dtX10_image 14 rfl) ?_
    refine pv_dup (pc := 27) rfl (fm_dec dtX10_image 15 rfl) ?_
    refine pv_getI (k := 0) (j := 13) (ci := 10) (pc := 28) pfl_X10_129 (by decide) rfl (by decide) (fm_dec dtX10_image 16 rfl) ?_
    refine pv_iconst (pc := 31) (v := 1) (by decide) (fm_dec dtX10_image 17 rfl) ?_
    refine pv_iadd (pc := 32) (fm_dec dtX10_image 18 rfl) ?_
    refine pv_putI (k := 0) (j := 13) (ci := 10) (pc := 33) pfl_X10_129 (by decide) rfl (by decide) (fm_dec dtX10_image 19 rfl) ?_
    refine pv_aloadn (pc := 36) (n := 0) 0 rfl rfl (fm_dec dtX10_image 20 rfl) ?_
    refine pv_getI (k := 0) (j := 13) (ci := 10) (pc := 37) pfl_X10_129 (by decide) rfl (by decide) (fm_dec dtX10_image 21 rfl) ?_
    exact pv_ireturn (pc := 40) rfl (fm_dec dtX10_image 22 rfl) (by have h9 := hq h3 M23 k23; have e9 : M23.1 0 13 = M.1 0 13 := (k23.2.2.2 0 (by omega) 13).1; rw [e9, fmI_s]; exact h9)
  · refine pv_iconst (pc := 8) (v := (-1)) (by decide) (fm_dec dtX10_image 4 rfl) ?_
    exact pv_ireturn (pc := 9) rfl (fm_dec dtX10_image 5 rfl) (hn (by have z3 : (3 : Int32).toInt = 3 := (by decide); rw [sc_lt] at hc5; omega))
set_option maxRecDepth 20000 in
theorem c_fgt {M : fmM} {Q : fmR → fmM → Prop}  (hq : Q (.inl none) (fmI M 34 5 0)) : pvGood Tx 0 qX3_forget [.ref 34] M Q := by
  refine pvGood_of (Nat.le_of_ble_eq_true rfl) ?_
  show pvEv Tx 0 qX3_forget 0 [some (.ref 34)] [] M Q
  refine pv_aloadn (pc := 0) (n := 0) 0 rfl rfl (fm_dec dtX3_forget 0 rfl) ?_
  refine pv_iconst (pc := 1) (v := 0) (by decide) (fm_dec dtX3_forget 1 rfl) ?_
  refine pv_putI (k := 34) (j := 5) (ci := 3) (pc := 2) pfl_X3_29 (by decide) rfl (by decide) (fm_dec dtX3_forget 2 rfl) ?_
  exact pv_return (pc := 5) rfl (fm_dec dtX3_forget 3 rfl) hq
theorem fmI_s' {M : fmM} {k j : Nat} {x : Int32} : (fmI M k j x).1 k j = x := fmI_s M k j x
set_option maxRecDepth 20000 in
theorem c_xreS {M : fmM} {Q : fmR → fmM → Prop} {i : Nat} (hi : (M.1 0 13).toInt = (i : Int)) (h4 : i ≤ 3) (hn : i = 0 → Q (.inl (some (.int (-1)))) M) (hq : 0 < i → ∀ M1 : fmM, shA 0 (1 + (i - 1)) (fmI M 0 13 (M.1 0 13 - 1)) M1 → Q (.inl (some (.int (M.1 0 13 - 1)))) (fmI (fmI M1 0 14 0) 34 5 0)) : pvGood Tx 2 qX10_restore [.ref 0] M Q := by
  refine pvGood_of (Nat.le_of_ble_eq_true rfl) ?_
  show pvEv Tx 2 qX10_restore 0 [some (.ref 0)] [] M Q
  refine pv_aloadn (pc := 0) (n := 0) 0 rfl rfl (fm_dec dtX10_restore 0 rfl) ?_
  refine pv_getI (k := 0) (j := 13) (ci := 10) (pc := 1) pfl_X10_129 (by decide) rfl (by decide) (fm_dec dtX10_restore 1 rfl) ?_
  refine pv_if_gt (pc := 4) 9 (by decide) (fm_dec dtX10_restore 2 rfl) (fun hc4 => ?_) (fun hc4 => ?_)
  · have z0 : (0 : Int32).toInt = 0 := (by decide)
    have h0 : 0 < i := (by rw [sc_lt] at hc4; omega)
    have e1 : (M.1 0 13 - 1).toInt = ((i - 1 : Nat) : Int) := (by have z1 : (1 : Int32).toInt = 1 := (by decide); rw [sc_sub (by omega) (by omega)]; omega)
    refine pv_aloadn (pc := 9) (n := 0) 0 rfl rfl (fm_dec dtX10_restore 5 rfl) ?_
    refine pv_dup (pc := 10) rfl (fm_dec dtX10_restore 6 rfl) ?_
    refine pv_getI (k := 0) (j := 13) (ci := 10) (pc := 11) pfl_X10_129 (by decide) rfl (by decide) (fm_dec dtX10_restore 7 rfl) ?_
    refine pv_iconst (pc := 14) (v := 1) (by decide) (fm_dec dtX10_restore 8 rfl) ?_
    refine pv_isub (pc := 15) (fm_dec dtX10_restore 9 rfl) ?_
    refine pv_putI (k := 0) (j := 13) (ci := 10) (pc := 16) pfl_X10_129 (by decide) rfl (by decide) (fm_dec dtX10_restore 10 rfl) ?_
    refine pv_aloadn (pc := 19) (n := 0) 0 rfl rfl (fm_dec dtX10_restore 11 rfl) ?_
    refine pv_getR (k := 0) (j := 9) (ci := 10) (pc := 20) 46 rfl (by decide) pfl_X10_75 (by decide) rfl (by decide) (fm_dec dtX10_restore 12 rfl) ?_
    refine pv_aloadn (pc := 23) (n := 0) 0 rfl rfl (fm_dec dtX10_restore 13 rfl) ?_
    refine pv_getR (k := 0) (j := 10) (ci := 10) (pc := 24) 43 rfl (by decide) pfl_X10_79 (by decide) rfl (by decide) (fm_dec dtX10_restore 14 rfl) ?_
    refine pv_aloadn (pc := 27) (n := 0) 0 rfl rfl (fm_dec dtX10_restore 15 rfl) ?_
    refine pv_getI (k := 0) (j := 13) (ci := 10) (pc := 28) pfl_X10_129 (by decide) rfl (by decide) (fm_dec dtX10_restore 16 rfl) ?_
    refine pv_aald (k := 43) (n := 3) (r := (46 + 36 * (1 + (i - 1)))) (pc := 31) (by decide) (Or.inl rfl) rfl (ix_in e1 (by omega)) (by have h9 := xi_at e1 (by omega); rw [show 46 + 36 * (1 + (i - 1)) = 82 + 36 * (i - 1) by omega]; exact h9) (by omega) (fm_dec dtX10_restore 17 rfl) ?_
    refine pv_invV1 (k := 46) (d' := 1) (pc := 32) pcv_X10_360 (by decide) rfl (Nat.le_of_ble_eq_true rfl) (by decide) (fm_dec dtX10_restore 18 rfl) ?_
    refine c_shA (z1 := 0) (z2 := 1 + (i - 1)) (by decide) (by omega) (by omega) (fun M32 k32 => ?_) 
    refine pv_then0 ?_
    refine pv_aloadn (pc := 35) (n := 0) 0 rfl rfl (fm_dec dtX10_restore 19 rfl) ?_
    refine pv_iconst (pc := 36) (v := 0) (by decide) (fm_dec dtX10_restore 20 rfl) ?_
    refine pv_putI (k := 0) (j := 14) (ci := 10) (pc := 37) pfl_X10_132 (by decide) rfl (by decide) (fm_dec dtX10_restore 21 rfl) ?_
    refine pv_aloadn (pc := 40) (n := 0) 0 rfl rfl (fm_dec dtX10_restore 22 rfl) ?_
    refine pv_getR (k := 0) (j := 7) (ci := 10) (pc := 41) 34 rfl (by decide) pfl_X10_61 (by decide) rfl (by decide) (fm_dec dtX10_restore 23 rfl) ?_
    refine pv_invV0 (k := 34) (d' := 0) (pc := 44) pcv_X10_135 (by decide) rfl (Nat.le_of_ble_eq_true rfl) (by decide) (fm_dec dtX10_restore 24 rfl) ?_
    refine c_fgt ?_
    refine pv_then0 ?_
    refine pv_aloadn (pc := 47) (n := 0) 0 rfl rfl (fm_dec dtX10_restore 25 rfl) ?_
    refine pv_getI (k := 0) (j := 13) (ci := 10) (pc := 48) pfl_X10_129 (by decide) rfl (by decide) (fm_dec dtX10_restore 26 rfl) ?_
    exact pv_ireturn (pc := 51) rfl (fm_dec dtX10_restore 27 rfl) (by have h9 := hq h0 M32 k32; have e9 : M32.1 0 13 = M.1 0 13 - 1 := ((k32.2.2.2 0 (by omega) 13).1).trans fmI_s'; rw [← e9] at h9; exact h9)
  · refine pv_iconst (pc := 7) (v := (-1)) (by decide) (fm_dec dtX10_restore 3 rfl) ?_
    exact pv_ireturn (pc := 8) rfl (fm_dec dtX10_restore 4 rfl) (hn (by have z0 : (0 : Int32).toInt = 0 := (by decide); rw [sc_lt] at hc4; omega))
set_option maxRecDepth 20000 in
theorem c_xunS {M : fmM} {Q : fmR → fmM → Prop} {w : Nat} (hw : (M.1 46 2).toInt = (w : Int)) (h16 : w ≤ 16) (hn : w = 0 → Q (.inl (some (.int (-1)))) M) (hq : 0 < w → ∀ M1 : fmM, cpR 47 48 (50 + (w - 1)) (66 + (w - 1)) (fmI M 46 2 (M.1 46 2 - 1)) M1 → Q (.inl (some (.int (M.1 46 2 - 1)))) (fmI (fmI M1 0 14 0) 34 5 0)) : pvGood Tx 2 qX10_undo [.ref 0] M Q := by
  refine pvGood_of (Nat.le_of_ble_eq_true rfl) ?_
  show pvEv Tx 2 qX10_undo 0 [some (.ref 0)] [] M Q
  refine pv_aloadn (pc := 0) (n := 0) 0 rfl rfl (fm_dec dtX10_undo 0 rfl) ?_
  refine pv_getR (k := 0) (j := 9) (ci := 10) (pc := 1) 46 rfl (by decide) pfl_X10_75 (by decide) rfl (by decide) (fm_dec dtX10_undo 1 rfl) ?_
  refine pv_getI (k := 46) (j := 2) (ci := 5) (pc := 4) pfl_X10_126 (by decide) rfl (by decide) (fm_dec dtX10_undo 2 rfl) ?_
  refine pv_if_gt (pc := 7) 12 (by decide) (fm_dec dtX10_undo 3 rfl) (fun hc7 => ?_) (fun hc7 => ?_)
  · have z0 : (0 : Int32).toInt = 0 := (by decide)
    have h0 : 0 < w := (by rw [sc_lt] at hc7; omega)
    refine pv_aloadn (pc := 12) (n := 0) 0 rfl rfl (fm_dec dtX10_undo 6 rfl) ?_
    refine pv_getR (k := 0) (j := 9) (ci := 10) (pc := 13) 46 rfl (by decide) pfl_X10_75 (by decide) rfl (by decide) (fm_dec dtX10_undo 7 rfl) ?_
    refine pv_invV0 (k := 46) (d' := 1) (pc := 16) pcv_X10_166 (by decide) rfl (Nat.le_of_ble_eq_true rfl) (by decide) (fm_dec dtX10_undo 8 rfl) ?_
    refine c_gbS hw h0 h16 (fun M16 k16 => ?_) 
    refine pv_then0 ?_
    refine pv_aloadn (pc := 19) (n := 0) 0 rfl rfl (fm_dec dtX10_undo 9 rfl) ?_
    refine pv_iconst (pc := 20) (v := 0) (by decide) (fm_dec dtX10_undo 10 rfl) ?_
    refine pv_putI (k := 0) (j := 14) (ci := 10) (pc := 21) pfl_X10_132 (by decide) rfl (by decide) (fm_dec dtX10_undo 11 rfl) ?_
    refine pv_aloadn (pc := 24) (n := 0) 0 rfl rfl (fm_dec dtX10_undo 12 rfl) ?_
    refine pv_getR (k := 0) (j := 7) (ci := 10) (pc := 25) 34 rfl (by decide) pfl_X10_61 (by decide) rfl (by decide) (fm_dec dtX10_undo 13 rfl) ?_
    refine pv_invV0 (k := 34) (d' := 0) (pc := 28) pcv_X10_135 (by decide) rfl (Nat.le_of_ble_eq_true rfl) (by decide) (fm_dec dtX10_undo 14 rfl) ?_
    refine c_fgt ?_
    refine pv_then0 ?_
    refine pv_aloadn (pc := 31) (n := 0) 0 rfl rfl (fm_dec dtX10_undo 15 rfl) ?_
    refine pv_getR (k := 0) (j := 9) (ci := 10) (pc := 32) 46 rfl (by decide) pfl_X10_75 (by decide) rfl (by decide) (fm_dec dtX10_undo 16 rfl) ?_
    refine pv_getI (k := 46) (j := 2) (ci := 5) (pc := 35) pfl_X10_126 (by decide) rfl (by decide) (fm_dec dtX10_undo 17 rfl) ?_
    exact pv_ireturn (pc := 38) rfl (fm_dec dtX10_undo 18 rfl) (by have h9 := hq h0 M16 k16; have e9 : M16.1 46 2 = M.1 46 2 - 1 := (k16.2.1 46 2 (by decide) (by decide)).trans fmI_s'; rw [← e9] at h9; exact h9)
  · refine pv_iconst (pc := 10) (v := (-1)) (by decide) (fm_dec dtX10_undo 4 rfl) ?_
    exact pv_ireturn (pc := 11) rfl (fm_dec dtX10_undo 5 rfl) (hn (by have z0 : (0 : Int32).toInt = 0 := (by decide); rw [sc_lt] at hc7; omega))
-- the reference's side
def cpB (a b n : Nat) (M M' : fmM) : Prop := (∀ j, j < n → M'.1 b j = M.1 a j) ∧ (∀ k j, ¬ (k = b ∧ j < n) → M'.1 k j = M.1 k j) ∧ M'.2 = M.2
abbrev rwC (a : Nat) : Prop := a < 522 ∧ Tm.2.1 a = 0 ∧ Tm.2.2.1 a = 14
theorem cpB.next {a b n : Nat} {M0 M : fmM} (h : cpB a b n M0 M) (hab : a ≠ b) : cpB a b (n + 1) M0 (fmI M b n (M.1 a n)) := by
  obtain ⟨h1, h2, h3⟩ := h
  refine ⟨fun j hj => ?_, fun k j hk => ?_, h3⟩
  · rw [fmI_at]
    by_cases e : j = n
    · subst e
      rw [if_pos ⟨rfl, rfl⟩]
      exact h2 a j (fun h9 => hab h9.1)
    · rw [if_neg (fun h9 => e h9.2)]
      exact h1 j (by omega)
  · rw [fmI_at, if_neg (by omega)]
    exact h2 k j (by omega)
theorem ro_7 : rwC 7 := by decide +kernel
theorem ro_b : ∀ w, w < 16 → rwC (503 + w) := by decide +kernel
theorem sl_d : ∀ t, t < 239 → ((sl t).1 = 0 ∧ (sl t).2 = 32) ∨ (sl t).1 = 7 ∨ (503 ≤ (sl t).1 ∧ (sl t).1 < 519) := by decide +kernel
set_option maxRecDepth 20000 in
theorem mcp_loop {Q : fmR → fmM → Prop} {a b : Nat} {M0 : fmM} (ha : rwC a) (hb : rwC b) (hab : a ≠ b) (hq : ∀ M' : fmM, cpB a b 14 M0 M' → Q (.inl none) M') : ∀ (m : Nat) (n : Nat) (M : fmM), n ≤ 14 → 14 - n = m → cpB a b n M0 M → pvEv Tm 0 qX11_copies 2 [some (.ref a), some (.ref b), some (.int (nI n))] [] M Q := by
  intro m
  induction m using Nat.strongRecOn with
  | _ m ih =>
    intro n M hn14 hm hK
    have hn9 : (nI n).toInt = (n : Int) := nI_toInt (by omega)
    refine pv_iloadn (pc := 2) (n := 2) 2 rfl rfl (fm_dec dtX11_copies 2 rfl) ?_
    refine pv_bipush (pc := 3) (v := 14) (by decide) (fm_dec dtX11_copies 3 rfl) ?_
    refine pv_icmp_ge (pc := 5) 20 (by decide) (fm_dec dtX11_copies 4 rfl) (fun hc5 => ?_) (fun hc5 => ?_)
    · exact pv_return (pc := 20) rfl (fm_dec dtX11_copies 13 rfl) (by have e9 : n = 14 := (by rw [sc_le] at hc5; have z14 : (14 : Int32).toInt = 14 := (by decide); omega); subst e9; exact hq M hK)
    · have hn : n < 14 := (by rw [sc_le] at hc5; have z14 : (14 : Int32).toInt = 14 := (by decide); omega)
      refine pv_aloadn (pc := 8) (n := 1) 1 rfl rfl (fm_dec dtX11_copies 5 rfl) ?_
      refine pv_iloadn (pc := 9) (n := 2) 2 rfl rfl (fm_dec dtX11_copies 6 rfl) ?_
      refine pv_aloadn (pc := 10) (n := 0) 0 rfl rfl (fm_dec dtX11_copies 7 rfl) ?_
      refine pv_iloadn (pc := 11) (n := 2) 2 rfl rfl (fm_dec dtX11_copies 8 rfl) ?_
      refine pv_iald (k := (a)) (n := 14) (pc := 12) ha.1 ha.2.1 ha.2.2 (ix_in hn9 hn) (fm_dec dtX11_copies 9 rfl) ?_
      rw [i32_cl hn9]
      refine pv_iast (k := (b)) (n := 14) (pc := 13) hb.1 hb.2.1 hb.2.2 (ix_in hn9 hn) (fm_dec dtX11_copies 10 rfl) ?_
      rw [i32_cl hn9]
      refine pv_iincc (pc := 14) 2 1 (by decide) rfl (by decide) rfl (fm_dec dtX11_copies 11 rfl) ?_
      dsimp only [List.set_cons_zero, List.set_cons_succ]
      refine pv_goto (pc := 17) 2 (by decide) (fm_dec dtX11_copies 12 rfl) ?_
      rw [nI_succ1]
      exact ih (14 - (n + 1)) (by omega) (n + 1) _ (by omega) rfl (hK.next hab)
set_option maxRecDepth 20000 in
theorem c_mcp {M : fmM} {Q : fmR → fmM → Prop} {a b : Nat} (ha : rwC a) (hb : rwC b) (hab : a ≠ b) (hq : ∀ M' : fmM, cpB a b 14 M M' → Q (.inl none) M') : pvGood Tm 0 qX11_copies [.ref a, .ref b] M Q := by
  refine pvGood_of (Nat.le_of_ble_eq_true rfl) ?_
  show pvEv Tm 0 qX11_copies 0 [some (.ref a), some (.ref b), none] [] M Q
  refine pv_iconst (pc := 0) (v := 0) (by decide) (fm_dec dtX11_copies 0 rfl) ?_
  refine pv_istoren (pc := 1) (n := 2) 2 rfl (by decide) rfl (fm_dec dtX11_copies 1 rfl) ?_
  dsimp only [List.set_cons_zero, List.set_cons_succ]
  exact mcp_loop ha hb hab hq 14 0 M (by decide) rfl ⟨fun j hj => absurd hj (Nat.not_lt_zero _), fun _ _ _ => rfl, rfl⟩
set_option maxRecDepth 20000 in
theorem c_mimS {M : fmM} {Q : fmR → fmM → Prop} {i : Nat} (hi : (M.1 0 34).toInt = (i : Int)) (h4 : i ≤ 3) (hn : i = 3 → Q (.inl (some (.int (-1)))) (fmI M 0 0 0)) (hq : i < 3 → ∀ (M1 : fmM), pa0 (fmI M 0 0 0) i 239 M1 → Q (.inl (some (.int (M.1 0 34 + 1)))) (fmI M1 0 34 (M.1 0 34 + 1))) : pvGood Tm 2 qX11_image [.ref 0] M Q := by
  refine pvGood_of (Nat.le_of_ble_eq_true rfl) ?_
  show pvEv Tm 2 qX11_image 0 [some (.ref 0)] [] M Q
  refine pv_aloadn (pc := 0) (n := 0) 0 rfl rfl (fm_dec dtX11_image 0 rfl) ?_
  refine pv_iconst (pc := 1) (v := 0) (by decide) (fm_dec dtX11_image 1 rfl) ?_
  refine pv_putI (k := 0) (j := 0) (ci := 11) (pc := 2) pfl_X11_101 (by decide) rfl (by decide) (fm_dec dtX11_image 2 rfl) ?_
  refine pv_aloadn (pc := 5) (n := 0) 0 rfl rfl (fm_dec dtX11_image 3 rfl) ?_
  refine pv_getI (k := 0) (j := 34) (ci := 11) (pc := 6) pfl_X11_206 (by decide) rfl (by decide) (fm_dec dtX11_image 4 rfl) ?_
  refine pv_iconst (pc := 9) (v := 3) (by decide) (fm_dec dtX11_image 5 rfl) ?_
  refine pv_icmp_ne (pc := 10) 15 (by decide) (fm_dec dtX11_image 6 rfl) (fun hc10 => ?_) (fun hc10 => ?_)
  · have z3 : (3 : Int32).toInt = 3 := (by decide)
    have h3 : i < 3 := (by have h9 : ¬ i = 3 := (fun h9 => hc10 (i32_ext (by show (M.1 0 34).toInt = _; omega))); omega)
    refine pv_aloadn (pc := 15) (n := 0) 0 rfl rfl (fm_dec dtX11_image 9 rfl) ?_
    refine pv_aloadn (pc := 16) (n := 0) 0 rfl rfl (fm_dec dtX11_image 10 rfl) ?_
    refine pv_getR (k := 0) (j := 30) (ci := 11) (pc := 17) 26 rfl (by decide) pfl_X11_70 (by decide) rfl (by decide) (fm_dec dtX11_image 11 rfl) ?_
    refine pv_aloadn (pc := 20) (n := 0) 0 rfl rfl (fm_dec dtX11_image 12 rfl) ?_
    refine pv_getI (k := 0) (j := 34) (ci := 11) (pc := 21) pfl_X11_206 (by decide) rfl (by decide) (fm_dec dtX11_image 13 rfl) ?_
    refine pv_aald (k := 26) (n := 3) (r := (519 + i)) (pc := 24) (by decide) (Or.inr (Or.inr rfl)) rfl (rw_kept.inb hi h3) (rw_kept.at hi h3) (rw_kept.2.2.2 i h3).2.1 (fm_dec dtX11_image 14 rfl) ?_
    refine pv_iconst (pc := 25) (v := 0) (by decide) (fm_dec dtX11_image 15 rfl) ?_
    refine pv_invV2 (k := 0) (d' := 1) (pc := 26) pcv_X11_443 (by decide) rfl (Nat.le_of_ble_eq_true rfl) (by decide) (fm_dec dtX11_image 16 rfl) ?_
    refine c_putsAll0 h3 (fun M26 p26 => ?_)
    refine pv_then0 ?_
    refine pv_aloadn (pc := 29) (n := 0) 0 rfl rfl (fm_dec dtX11_image 17 rfl) ?_
    refine pv_dup (pc := 30) rfl (fm_dec dtX11_image 18 rfl) ?_
    refine pv_getI (k := 0) (j := 34) (ci := 11) (pc := 31) pfl_X11_206 (by decide) rfl (by decide) (fm_dec dtX11_image 19 rfl) ?_
    refine pv_iconst (pc := 34) (v := 1) (by decide) (fm_dec dtX11_image 20 rfl) ?_
    refine pv_iadd (pc := 35) (fm_dec dtX11_image 21 rfl) ?_
    refine pv_putI (k := 0) (j := 34) (ci := 11) (pc := 36) pfl_X11_206 (by decide) rfl (by decide) (fm_dec dtX11_image 22 rfl) ?_
    refine pv_aloadn (pc := 39) (n := 0) 0 rfl rfl (fm_dec dtX11_image 23 rfl) ?_
    refine pv_getI (k := 0) (j := 34) (ci := 11) (pc := 40) pfl_X11_206 (by decide) rfl (by decide) (fm_dec dtX11_image 24 rfl) ?_
    exact pv_ireturn (pc := 43) rfl (fm_dec dtX11_image 25 rfl) (by have h9 := hq h3 M26 p26; have e9 : M26.1 0 34 = M.1 0 34 := p26.2.1 0 34 (by omega) (by decide); rw [e9, fmI_s]; exact h9)
  · refine pv_iconst (pc := 13) (v := (-1)) (by decide) (fm_dec dtX11_image 7 rfl) ?_
    exact pv_ireturn (pc := 14) rfl (fm_dec dtX11_image 8 rfl) (hn (by have z3 : (3 : Int32).toInt = 3 := (by decide); have h9 : (M.1 0 34).toInt = (3 : Int32).toInt := congrArg Int32.toInt hc10; omega))
set_option maxRecDepth 20000 in
theorem c_mreS {M : fmM} {Q : fmR → fmM → Prop} {i : Nat} (hi : (M.1 0 34).toInt = (i : Int)) (h4 : i ≤ 3) (hn : i = 0 → Q (.inl (some (.int (-1)))) (fmI M 0 0 0)) (hq : 0 < i → ∀ (M1 : fmM), pa1 (fmI (fmI M 0 0 0) 0 34 (M.1 0 34 - 1)) (i - 1) 239 M1 → Q (.inl (some (.int (M.1 0 34 - 1)))) (fmI M1 0 33 0)) : pvGood Tm 2 qX11_restore [.ref 0] M Q := by
  refine pvGood_of (Nat.le_of_ble_eq_true rfl) ?_
  show pvEv Tm 2 qX11_restore 0 [some (.ref 0)] [] M Q
  refine pv_aloadn (pc := 0) (n := 0) 0 rfl rfl (fm_dec dtX11_restore 0 rfl) ?_
  refine pv_iconst (pc := 1) (v := 0) (by decide) (fm_dec dtX11_restore 1 rfl) ?_
  refine pv_putI (k := 0) (j := 0) (ci := 11) (pc := 2) pfl_X11_101 (by decide) rfl (by decide) (fm_dec dtX11_restore 2 rfl) ?_
  refine pv_aloadn (pc := 5) (n := 0) 0 rfl rfl (fm_dec dtX11_restore 3 rfl) ?_
  refine pv_getI (k := 0) (j := 34) (ci := 11) (pc := 6) pfl_X11_206 (by decide) rfl (by decide) (fm_dec dtX11_restore 4 rfl) ?_
  refine pv_if_ne (pc := 9) 14 (by decide) (fm_dec dtX11_restore 5 rfl) (fun hc9 => ?_) (fun hc9 => ?_)
  · have hi0 : ((fmI M 0 0 0).1 0 34).toInt = (i : Int) := hi
    have h0 : 0 < i := (by have h9 : ¬ i = 0 := (fun h9 => hc9 (i32_ext (by show (M.1 0 34).toInt = _; rw [hi, h9]; decide))); omega)
    have e1 : ((fmI M 0 0 0).1 0 34 - 1).toInt = ((i - 1 : Nat) : Int) := (by have z1 : (1 : Int32).toInt = 1 := (by decide); rw [sc_sub (by omega) (by omega)]; omega)
    refine pv_aloadn (pc := 14) (n := 0) 0 rfl rfl (fm_dec dtX11_restore 8 rfl) ?_
    refine pv_dup (pc := 15) rfl (fm_dec dtX11_restore 9 rfl) ?_
    refine pv_getI (k := 0) (j := 34) (ci := 11) (pc := 16) pfl_X11_206 (by decide) rfl (by decide) (fm_dec dtX11_restore 10 rfl) ?_
    refine pv_iconst (pc := 19) (v := 1) (by decide) (fm_dec dtX11_restore 11 rfl) ?_
    refine pv_isub (pc := 20) (fm_dec dtX11_restore 12 rfl) ?_
    refine pv_putI (k := 0) (j := 34) (ci := 11) (pc := 21) pfl_X11_206 (by decide) rfl (by decide) (fm_dec dtX11_restore 13 rfl) ?_
    refine pv_aloadn (pc := 24) (n := 0) 0 rfl rfl (fm_dec dtX11_restore 14 rfl) ?_
    refine pv_aloadn (pc := 25) (n := 0) 0 rfl rfl (fm_dec dtX11_restore 15 rfl) ?_
    refine pv_getR (k := 0) (j := 30) (ci := 11) (pc := 26) 26 rfl (by decide) pfl_X11_70 (by decide) rfl (by decide) (fm_dec dtX11_restore 16 rfl) ?_
    refine pv_aloadn (pc := 29) (n := 0) 0 rfl rfl (fm_dec dtX11_restore 17 rfl) ?_
    refine pv_getI (k := 0) (j := 34) (ci := 11) (pc := 30) pfl_X11_206 (by decide) rfl (by decide) (fm_dec dtX11_restore 18 rfl) ?_
    refine pv_aald (k := 26) (n := 3) (r := (519 + (i - 1))) (pc := 33) (by decide) (Or.inr (Or.inr rfl)) rfl (rw_kept.inb e1 (by omega)) (rw_kept.at e1 (by omega)) (rw_kept.2.2.2 (i - 1) (by omega)).2.1 (fm_dec dtX11_restore 19 rfl) ?_
    refine pv_iconst (pc := 34) (v := 1) (by decide) (fm_dec dtX11_restore 20 rfl) ?_
    refine pv_invV2 (k := 0) (d' := 1) (pc := 35) pcv_X11_443 (by decide) rfl (Nat.le_of_ble_eq_true rfl) (by decide) (fm_dec dtX11_restore 21 rfl) ?_
    refine c_putsAll1 (i := i - 1) (by omega) (fun M35 p35 => ?_)
    refine pv_then0 ?_
    refine pv_aloadn (pc := 38) (n := 0) 0 rfl rfl (fm_dec dtX11_restore 22 rfl) ?_
    refine pv_iconst (pc := 39) (v := 0) (by decide) (fm_dec dtX11_restore 23 rfl) ?_
    refine pv_putI (k := 0) (j := 33) (ci := 11) (pc := 40) pfl_X11_203 (by decide) rfl (by decide) (fm_dec dtX11_restore 24 rfl) ?_
    refine pv_aloadn (pc := 43) (n := 0) 0 rfl rfl (fm_dec dtX11_restore 25 rfl) ?_
    refine pv_getI (k := 0) (j := 34) (ci := 11) (pc := 44) pfl_X11_206 (by decide) rfl (by decide) (fm_dec dtX11_restore 26 rfl) ?_
    exact pv_ireturn (pc := 47) rfl (fm_dec dtX11_restore 27 rfl) (by have h9 := hq h0 M35 p35; have e9 : M35.1 0 34 = M.1 0 34 - 1 := (p35.2.1 0 34 (fun t ht h8 => by have := sl_d t ht; omega) (by decide)).trans rfl; rw [← e9] at h9; exact h9)
  · refine pv_iconst (pc := 12) (v := (-1)) (by decide) (fm_dec dtX11_restore 6 rfl) ?_
    exact pv_ireturn (pc := 13) rfl (fm_dec dtX11_restore 7 rfl) (hn (by have h9 : (M.1 0 34).toInt = (0 : Int32).toInt := congrArg Int32.toInt hc9; have z0 : (0 : Int32).toInt = 0 := (by decide); omega))
set_option maxRecDepth 20000 in
theorem c_munS {M : fmM} {Q : fmR → fmM → Prop} {w : Nat} (hw : (M.1 0 32).toInt = (w : Int)) (h16 : w ≤ 16) (hn : w = 0 → Q (.inl (some (.int (-1)))) (fmI M 0 0 0)) (hq : 0 < w → ∀ M1 : fmM, cpB (503 + (w - 1)) 7 14 (fmI (fmI M 0 0 0) 0 32 (M.1 0 32 - 1)) M1 → Q (.inl (some (.int (M.1 0 32 - 1)))) (fmI M1 0 33 0)) : pvGood Tm 1 qX11_undo [.ref 0] M Q := by
  refine pvGood_of (Nat.le_of_ble_eq_true rfl) ?_
  show pvEv Tm 1 qX11_undo 0 [some (.ref 0)] [] M Q
  refine pv_aloadn (pc := 0) (n := 0) 0 rfl rfl (fm_dec dtX11_undo 0 rfl) ?_
  refine pv_iconst (pc := 1) (v := 0) (by decide) (fm_dec dtX11_undo 1 rfl) ?_
  refine pv_putI (k := 0) (j := 0) (ci := 11) (pc := 2) pfl_X11_101 (by decide) rfl (by decide) (fm_dec dtX11_undo 2 rfl) ?_
  refine pv_aloadn (pc := 5) (n := 0) 0 rfl rfl (fm_dec dtX11_undo 3 rfl) ?_
  refine pv_getI (k := 0) (j := 32) (ci := 11) (pc := 6) pfl_X11_200 (by decide) rfl (by decide) (fm_dec dtX11_undo 4 rfl) ?_
  refine pv_if_ne (pc := 9) 14 (by decide) (fm_dec dtX11_undo 5 rfl) (fun hc9 => ?_) (fun hc9 => ?_)
  · have h0 : 0 < w := (by have h9 : ¬ w = 0 := (fun h9 => hc9 (i32_ext (by show (M.1 0 32).toInt = _; rw [hw, h9]; decide))); omega)
    have e1 : ((fmI M 0 0 0).1 0 32 - 1).toInt = ((w - 1 : Nat) : Int) := (by have z1 : (1 : Int32).toInt = 1 := (by decide); have hw0 : ((fmI M 0 0 0).1 0 32).toInt = (w : Int) := hw; rw [sc_sub (by omega) (by omega)]; omega)
    refine pv_aloadn (pc := 14) (n := 0) 0 rfl rfl (fm_dec dtX11_undo 8 rfl) ?_
    refine pv_dup (pc := 15) rfl (fm_dec dtX11_undo 9 rfl) ?_
    refine pv_getI (k := 0) (j := 32) (ci := 11) (pc := 16) pfl_X11_200 (by decide) rfl (by decide) (fm_dec dtX11_undo 10 rfl) ?_
    refine pv_iconst (pc := 19) (v := 1) (by decide) (fm_dec dtX11_undo 11 rfl) ?_
    refine pv_isub (pc := 20) (fm_dec dtX11_undo 12 rfl) ?_
    refine pv_putI (k := 0) (j := 32) (ci := 11) (pc := 21) pfl_X11_200 (by decide) rfl (by decide) (fm_dec dtX11_undo 13 rfl) ?_
    refine pv_aloadn (pc := 24) (n := 0) 0 rfl rfl (fm_dec dtX11_undo 14 rfl) ?_
    refine pv_getR (k := 0) (j := 29) (ci := 11) (pc := 25) 25 rfl (by decide) pfl_X11_67 (by decide) rfl (by decide) (fm_dec dtX11_undo 15 rfl) ?_
    refine pv_aloadn (pc := 28) (n := 0) 0 rfl rfl (fm_dec dtX11_undo 16 rfl) ?_
    refine pv_getI (k := 0) (j := 32) (ci := 11) (pc := 29) pfl_X11_200 (by decide) rfl (by decide) (fm_dec dtX11_undo 17 rfl) ?_
    refine pv_aald (k := 25) (n := 16) (r := (503 + (w - 1))) (pc := 32) (by decide) (Or.inr (Or.inr rfl)) rfl (rw_before.inb e1 (by omega)) (rw_before.at e1 (by omega)) (rw_before.2.2.2 (w - 1) (by omega)).2.1 (fm_dec dtX11_undo 18 rfl) ?_
    refine pv_aloadn (pc := 33) (n := 0) 0 rfl rfl (fm_dec dtX11_undo 19 rfl) ?_
    refine pv_getR (k := 0) (j := 27) (ci := 11) (pc := 34) 7 rfl (by decide) pfl_X11_61 (by decide) rfl (by decide) (fm_dec dtX11_undo 20 rfl) ?_
    refine pv_iS2 (d' := 0) (pc := 37) pcs_X11_323 (Nat.le_of_ble_eq_true rfl) (by decide) (fm_dec dtX11_undo 21 rfl) ?_
    refine c_mcp (ro_b (w - 1) (by omega)) ro_7 (by omega) (fun M37 k37 => ?_) 
    refine pv_then0 ?_
    refine pv_aloadn (pc := 40) (n := 0) 0 rfl rfl (fm_dec dtX11_undo 22 rfl) ?_
    refine pv_iconst (pc := 41) (v := 0) (by decide) (fm_dec dtX11_undo 23 rfl) ?_
    refine pv_putI (k := 0) (j := 33) (ci := 11) (pc := 42) pfl_X11_203 (by decide) rfl (by decide) (fm_dec dtX11_undo 24 rfl) ?_
    refine pv_aloadn (pc := 45) (n := 0) 0 rfl rfl (fm_dec dtX11_undo 25 rfl) ?_
    refine pv_getI (k := 0) (j := 32) (ci := 11) (pc := 46) pfl_X11_200 (by decide) rfl (by decide) (fm_dec dtX11_undo 26 rfl) ?_
    exact pv_ireturn (pc := 49) rfl (fm_dec dtX11_undo 27 rfl) (by have h9 := hq h0 M37 k37; have e9 : M37.1 0 32 = M.1 0 32 - 1 := (k37.2.1 0 32 (by omega)).trans rfl; rw [← e9] at h9; exact h9)
  · refine pv_iconst (pc := 12) (v := (-1)) (by decide) (fm_dec dtX11_undo 6 rfl) ?_
    exact pv_ireturn (pc := 13) rfl (fm_dec dtX11_undo 7 rfl) (hn (by have h9 : (M.1 0 32).toInt = (0 : Int32).toInt := congrArg Int32.toInt hc9; have z0 : (0 : Int32).toInt = 0 := (by decide); omega))
-- THE STATES OF BOTH SIDES
/-- a state as the reference's row f has it -/
def msA (f : Nat → Int32) (D : dD) (S : aS) : Prop := (f 0).toInt = (S.1.2.2.1 : Int) ∧ (f 10).toInt = (S.1.1 : Int) ∧ (f 9).toInt = (S.1.2.1 : Int) ∧ (f 11).toInt = (S.1.2.2.2.1 : Int) ∧ (f 12).toInt = (S.1.2.2.2.2.1 : Int) ∧ (f 13).toInt = S.1.2.2.2.2.2 ∧ ∀ i, i < D.1 → (f (1 + i)).toInt = if S.2 i = -1 then -1000 else (S.1.1 : Int) - S.2 i
theorem mst_A {M : fmM} {D : dD} {S : aS} : mst M D S ↔ msA (M.1 7) D S := Iff.rfl
theorem msA.of {f g : Nat → Int32} {D : dD} {S : aS} (h : msA f D S) (hD : D.1 ≤ 8) (e : ∀ j, j < 14 → g j = f j) : msA g D S := by
  obtain ⟨a, b, c, d, e1, f1, g1⟩ := h
  exact ⟨by rw [e 0 (by decide)]; exact a, by rw [e 10 (by decide)]; exact b, by rw [e 9 (by decide)]; exact c, by rw [e 11 (by decide)]; exact d, by rw [e 12 (by decide)]; exact e1, by rw [e 13 (by decide)]; exact f1, fun i hi => by rw [e (1 + i) (by omega)]; exact g1 i hi⟩
/-- cells k, a of the first side and the row f speak of one state -/
def pairS (k a : Nat) (f : Nat → Int32) (M : fmM) (D : dD) : Prop := ∃ S, xsA k a M D S ∧ msA f D S ∧ stO D S
theorem pairS.cp {k a k' a' : Nat} {f g : Nat → Int32} {M M' : fmM} {D : dD} (h : pairS k a f M D) (hD : D.1 ≤ 8) (hc : smS k' a' k a M M') (e : ∀ j, j < 14 → g j = f j) : pairS k' a' g M' D := by
  obtain ⟨S, h1, h2, h3⟩ := h
  exact ⟨S, hc.st hD h1, h2.of hD e, h3⟩
theorem smS.same {k a : Nat} {M M' : fmM} (h1 : ∀ j, M'.1 k j = M.1 k j) (h2 : ∀ j, M'.1 a j = M.1 a j) (h3 : M'.2 k 6 = M.2 k 6) : smS k a k a M M' := ⟨fun j _ _ => h1 j, h3, fun i _ => h2 i⟩
/-- shelf z, and what the reference keeps of it: how many works, the state now, those ahead -/
def shP (z : Nat) (W : Int32) (N : Nat → Int32) (B : Nat → Nat → Int32) (M : fmM) (D : dD) : Prop := M.1 (46 + 36 * z) 2 = W ∧ pairS (47 + 36 * z) (48 + 36 * z) N M D ∧ ∀ w : Nat, (w : Int) < W.toInt → w < 16 → pairS (50 + 36 * z + w) (66 + 36 * z + w) (B w) M D
theorem shP.cp {z1 z2 : Nat} {W W' : Int32} {N N' : Nat → Int32} {B B' : Nat → Nat → Int32} {M M' : fmM} {D : dD} (h : shP z2 W N B M D) (hD : D.1 ≤ 8) (c1 : smS (47 + 36 * z1) (48 + 36 * z1) (47 + 36 * z2) (48 + 36 * z2) M M') (c2 : M'.1 (46 + 36 * z1) 2 = M.1 (46 + 36 * z2) 2) (c3 : ∀ w : Nat, (w : Int) < (M.1 (46 + 36 * z2) 2).toInt → w < 16 → smS (50 + 36 * z1 + w) (66 + 36 * z1 + w) (50 + 36 * z2 + w) (66 + 36 * z2 + w) M M') (eW : W' = W) (eN : ∀ j, j < 14 → N' j = N j) (eB : ∀ w, w < 16 → ∀ j, j < 14 → B' w j = B w j) : shP z1 W' N' B' M' D := by
  obtain ⟨h1, h2, h3⟩ := h
  subst eW
  exact ⟨c2.trans h1, h2.cp hD c1 eN, fun w hw h16 => (h3 w hw h16).cp hD (c3 w (by rw [h1]; exact hw) h16) (eB w h16)⟩
theorem shP.keep {z : Nat} {W W' : Int32} {N N' : Nat → Int32} {B B' : Nat → Nat → Int32} {M M' : fmM} {D : dD} (h : shP z W N B M D) (hD : D.1 ≤ 8) (hM : ∀ k, 46 + 36 * z ≤ k → k < 82 + 36 * z → ∀ j, M'.1 k j = M.1 k j ∧ M'.2 k j = M.2 k j) (eW : W' = W) (eN : ∀ j, j < 14 → N' j = N j) (eB : ∀ w, w < 16 → ∀ j, j < 14 → B' w j = B w j) : shP z W' N' B' M' D :=
  h.cp hD (smS.same (fun j => (hM _ (by omega) (by omega) j).1) (fun j => (hM _ (by omega) (by omega) j).1) (hM _ (by omega) (by omega) 6).2) (hM _ (by omega) (by omega) 2).1 (fun w _ h16 => smS.same (fun j => (hM _ (by omega) (by omega) j).1) (fun j => (hM _ (by omega) (by omega) j).1) (hM _ (by omega) (by omega) 6).2) eW eN eB
/-- all states of both sides -/
def rSt (M M2 : fmM) (D : dD) : Prop := shP 0 (M2.1 0 32) (M2.1 7) (fun w => M2.1 (503 + w)) M D ∧ M.1 0 13 = M2.1 0 34 ∧ ∀ i : Nat, (i : Int) < (M.1 0 13).toInt → i < 3 → shP (1 + i) (M2.1 (519 + i) 0) (fun j => M2.1 (519 + i) (1 + j)) (fun w j => M2.1 (519 + i) (15 + 14 * w + j)) M D
theorem sl_n : ∀ j, j < 14 → sl (1 + j) = (7, j) := by decide +kernel
theorem sl_w : ∀ w, w < 16 → ∀ j, j < 14 → sl (15 + 14 * w + j) = (503 + w, j) := by decide +kernel
/-- what queries and texts leave -/
def skX (M M' : fmM) : Prop := (∀ k, 46 ≤ k → k < 190 → ∀ j, M'.1 k j = M.1 k j ∧ M'.2 k j = M.2 k j) ∧ M'.1 0 13 = M.1 0 13
def skM (M M' : fmM) : Prop := (∀ k j, k = 7 ∨ (503 ≤ k ∧ k < 522) → M'.1 k j = M.1 k j) ∧ M'.1 0 32 = M.1 0 32 ∧ M'.1 0 34 = M.1 0 34
theorem rSt.keep {M M' M2 M2' : fmM} {D : dD} (h : rSt M M2 D) (hD : D.1 ≤ 8) (k1 : skX M M') (k2 : skM M2 M2') : rSt M' M2' D := by
  obtain ⟨h1, h2, h3⟩ := h
  refine ⟨h1.keep hD (fun k a b => k1.1 k (by omega) (by omega)) k2.2.1 (fun j _ => k2.1 7 j (Or.inl rfl)) (fun w hw j _ => k2.1 _ j (Or.inr ⟨by omega, by omega⟩)), k1.2.trans (h2.trans k2.2.2.symm), fun i hi h3' => ?_⟩
  rw [k1.2] at hi
  exact (h3 i hi h3').keep hD (fun k a b => k1.1 k (by omega) (by omega)) (k2.1 _ 0 (Or.inr ⟨by omega, by omega⟩)) (fun j _ => k2.1 _ _ (Or.inr ⟨by omega, by omega⟩)) (fun w hw j _ => k2.1 _ _ (Or.inr ⟨by omega, by omega⟩))
/-- image -/
theorem rSt.im {M M1 M2 M3 : fmM} {D : dD} {i : Nat} (h : rSt M M2 D) (hD : D.1 ≤ 8) (hi : (M.1 0 13).toInt = (i : Int)) (h3 : i < 3) (c : shA (1 + i) 0 M M1) (p : pa0 (fmI M2 0 0 0) i 239 M3) : rSt (fmI M1 0 13 (M.1 0 13 + 1)) (fmI M3 0 34 (M2.1 0 34 + 1)) D := by
  obtain ⟨h1, h2, h4⟩ := h
  have ep : ∀ k j, ¬ (k = 519 + i ∧ j < 239) → ¬ (k = 0 ∧ j = 35) → ¬ (k = 0 ∧ j = 0) → ¬ (k = 0 ∧ j = 34) → (fmI M3 0 34 (M2.1 0 34 + 1)).1 k j = M2.1 k j := fun k j a b c d => by
    rw [fmI_at, if_neg d, p.2.1 k j a b, fmI_at, if_neg c]
  have es : ∀ t, t < 239 → (fmI M3 0 34 (M2.1 0 34 + 1)).1 (519 + i) t = M2.1 (sl t).1 (sl t).2 := fun t ht => by
    rw [fmI_k _ _ (by omega), p.1 t ht, fmI_at, if_neg (by have := sl_d t ht; omega)]
  have ec : ∀ k, ¬ (46 + 36 * (1 + i) ≤ k ∧ k < 82 + 36 * (1 + i)) → ¬ k = 0 → ∀ j, (fmI M1 0 13 (M.1 0 13 + 1)).1 k j = M.1 k j ∧ (fmI M1 0 13 (M.1 0 13 + 1)).2 k j = M.2 k j := fun k a b j => by
    rw [fmI_k _ _ b]
    exact c.2.2.2 k a j
  refine ⟨h1.keep hD (fun k a b j => ec k (by omega) (by omega) j) (ep 0 32 (by omega) (by omega) (by omega) (by omega)) (fun j _ => ep 7 j (by omega) (by omega) (by omega) (by omega)) (fun w _ j _ => ep _ j (by omega) (by omega) (by omega) (by omega)), ?_, fun i' hi' h3' => ?_⟩
  · rw [fmI_s, fmI_s, h2]
  · rw [fmI_s, i32_p1 hi (by omega)] at hi'
    by_cases e : i' = i
    · subst e
      refine h1.cp hD (c.1.fr (fun j => by rw [fmI_k _ _ (by omega)]) (fun j => by rw [fmI_k _ _ (by omega)]) rfl) (by rw [fmI_k _ _ (by omega)]; exact c.2.1) (fun w hw h16 => (c.2.2.1 w hw h16).fr (fun j => by rw [fmI_k _ _ (by omega)]) (fun j => by rw [fmI_k _ _ (by omega)]) rfl) (by rw [es 0 (by decide)]; rfl) (fun j hj => ?_) (fun w hw j hj => ?_)
      · show (fmI M3 0 34 (M2.1 0 34 + 1)).1 (519 + i') (1 + j) = M2.1 7 j
        rw [es (1 + j) (by omega), sl_n j hj]
      · show (fmI M3 0 34 (M2.1 0 34 + 1)).1 (519 + i') (15 + 14 * w + j) = M2.1 (503 + w) j
        rw [es (15 + 14 * w + j) (by omega), sl_w w hw j hj]
    · exact (h4 i' (by omega) h3').keep hD (fun k a b j => ec k (by omega) (by omega) j) (ep _ 0 (by omega) (by omega) (by omega) (by omega)) (fun j hj => ep _ _ (by omega) (by omega) (by omega) (by omega)) (fun w hw j hj => ep _ _ (by omega) (by omega) (by omega) (by omega))
/-- and back -/
theorem rSt.re {M M1 M2 M3 : fmM} {D : dD} {i : Nat} (h : rSt M M2 D) (hD : D.1 ≤ 8) (hi : (M.1 0 13).toInt = (i : Int)) (h0 : 0 < i) (h3 : i ≤ 3) (c : shA 0 (1 + (i - 1)) (fmI M 0 13 (M.1 0 13 - 1)) M1) (p : pa1 (fmI (fmI M2 0 0 0) 0 34 (M2.1 0 34 - 1)) (i - 1) 239 M3) : rSt (fmI (fmI M1 0 14 0) 34 5 0) (fmI M3 0 33 0) D := by
  obtain ⟨h1, h2, h4⟩ := h
  have e1 : (M.1 0 13 - 1).toInt = ((i - 1 : Nat) : Int) := by
    have z1 : (1 : Int32).toInt = 1 := by decide
    rw [sc_sub (by omega) (by omega)]
    omega
  have ex : ∀ k, 82 ≤ k → ∀ j, (fmI (fmI M1 0 14 0) 34 5 0).1 k j = M.1 k j ∧ (fmI (fmI M1 0 14 0) 34 5 0).2 k j = M.2 k j := fun k a j => by
    rw [fmI_k _ _ (by omega), fmI_k _ _ (by omega)]
    have h9 := c.2.2.2 k (by omega) j
    rw [fmI_k _ _ (by omega)] at h9
    exact h9
  have e13 : (fmI (fmI M1 0 14 0) 34 5 0).1 0 13 = M.1 0 13 - 1 := by
    rw [fmI_k _ _ (by decide), fmI_j _ _ (by decide), (c.2.2.2 0 (by omega) 13).1, fmI_s]
  have em : ∀ k j, k ≠ 0 → k ≠ 7 → ¬ (503 ≤ k ∧ k < 519) → (fmI M3 0 33 0).1 k j = M2.1 k j := fun k j a b c => by
    rw [fmI_k _ _ a, p.2.1 k j (fun t ht h9 => by have := sl_d t ht; omega) (by omega), fmI_k _ _ a, fmI_k _ _ a]
  have e34 : (fmI M3 0 33 0).1 0 34 = M2.1 0 34 - 1 := by
    rw [fmI_j _ _ (by decide), p.2.1 0 34 (fun t ht h9 => by have := sl_d t ht; omega) (by decide), fmI_s]
  have es : ∀ t, t < 239 → M3.1 (sl t).1 (sl t).2 = M2.1 (519 + (i - 1)) t := fun t ht => by
    rw [p.1 t ht, fmI_k _ _ (by omega), fmI_k _ _ (by omega)]
  have hz := h4 (i - 1) (by omega) (by omega)
  refine ⟨?_, ?_, fun i' hi' h3' => ?_⟩
  · have hz0 : shP (1 + (i - 1)) (M2.1 (519 + (i - 1)) 0) (fun j => M2.1 (519 + (i - 1)) (1 + j)) (fun w j => M2.1 (519 + (i - 1)) (15 + 14 * w + j)) (fmI M 0 13 (M.1 0 13 - 1)) D := hz.keep hD (fun k a b j => ⟨by rw [fmI_k _ _ (by omega)], rfl⟩) rfl (fun _ _ => rfl) (fun _ _ _ _ => rfl)
    have kk : ∀ k j, k ≠ 0 → k ≠ 34 → (fmI (fmI M1 0 14 0) 34 5 0).1 k j = M1.1 k j := fun k j a b => by rw [fmI_k _ _ b, fmI_k _ _ a]
    refine hz0.cp hD (c.1.fr (fun j => kk _ _ (by omega) (by omega)) (fun j => kk _ _ (by omega) (by omega)) rfl) ((kk _ _ (by omega) (by omega)).trans c.2.1) (fun w hw h16 => (c.2.2.1 w hw h16).fr (fun j => kk _ _ (by omega) (by omega)) (fun j => kk _ _ (by omega) (by omega)) rfl) ?_ (fun j hj => ?_) (fun w hw j hj => ?_)
    · rw [fmI_j _ _ (by decide)]
      exact es 0 (by decide)
    · show (fmI M3 0 33 0).1 7 j = M2.1 (519 + (i - 1)) (1 + j)
      have h9 := es (1 + j) (by omega)
      rw [sl_n j hj] at h9
      rw [fmI_k _ _ (by decide)]
      exact h9
    · show (fmI M3 0 33 0).1 (503 + w) j = M2.1 (519 + (i - 1)) (15 + 14 * w + j)
      have h9 := es (15 + 14 * w + j) (by omega)
      rw [sl_w w hw j hj] at h9
      rw [fmI_k _ _ (by omega)]
      exact h9
  · rw [e13, e34, h2]
  · rw [e13, e1] at hi'
    exact (h4 i' (by omega) h3').keep hD (fun k a b j => ex k (by omega) j) (em _ _ (by omega) (by omega) (by omega)) (fun j hj => em _ _ (by omega) (by omega) (by omega)) (fun w hw j hj => em _ _ (by omega) (by omega) (by omega))
/-- a work undone -/
theorem rSt.un {M M1 M2 M3 : fmM} {D : dD} {w : Nat} (h : rSt M M2 D) (hD : D.1 ≤ 8) (hw : (M.1 46 2).toInt = (w : Int)) (h0 : 0 < w) (h16 : w ≤ 16) (c : cpR 47 48 (50 + (w - 1)) (66 + (w - 1)) (fmI M 46 2 (M.1 46 2 - 1)) M1) (p : cpB (503 + (w - 1)) 7 14 (fmI (fmI M2 0 0 0) 0 32 (M2.1 0 32 - 1)) M3) : rSt (fmI (fmI M1 0 14 0) 34 5 0) (fmI M3 0 33 0) D := by
  obtain ⟨⟨h1, h2, h3⟩, h4, h5⟩ := h
  have e1 : (M.1 46 2 - 1).toInt = ((w - 1 : Nat) : Int) := by
    have z1 : (1 : Int32).toInt = 1 := by decide
    rw [sc_sub (by omega) (by omega)]
    omega
  have h1 : M.1 46 2 = M2.1 0 32 := h1
  have kk : ∀ k j, k ≠ 0 → k ≠ 34 → (fmI (fmI M1 0 14 0) 34 5 0).1 k j = M1.1 k j := fun k j a b => by rw [fmI_k _ _ b, fmI_k _ _ a]
  have kx : ∀ k, k ≠ 0 → k ≠ 34 → k ≠ 46 → k ≠ 47 → k ≠ 48 → ∀ j, (fmI (fmI M1 0 14 0) 34 5 0).1 k j = M.1 k j ∧ (fmI (fmI M1 0 14 0) 34 5 0).2 k j = M.2 k j := fun k a b d e f j => ⟨by rw [kk k j a b, c.2.1 k j e f, fmI_k _ _ d], c.2.2 k j e⟩
  have em : ∀ k j, k ≠ 0 → k ≠ 7 → (fmI M3 0 33 0).1 k j = M2.1 k j := fun k j a b => by
    rw [fmI_k _ _ a, p.2.1 k j (by omega), fmI_k _ _ a, fmI_k _ _ a]
  have e32 : (fmI M3 0 33 0).1 0 32 = M2.1 0 32 - 1 := by
    rw [fmI_j _ _ (by decide), p.2.1 0 32 (by omega), fmI_s]
  have e34 : (fmI M3 0 33 0).1 0 34 = M2.1 0 34 := by
    rw [fmI_j _ _ (by decide), p.2.1 0 34 (by omega), fmI_j _ _ (by decide), fmI_j _ _ (by decide)]
  have e13 : (fmI (fmI M1 0 14 0) 34 5 0).1 0 13 = M.1 0 13 := by
    rw [fmI_k _ _ (by decide), fmI_j _ _ (by decide), c.2.1 0 13 (by decide) (by decide), fmI_k _ _ (by decide)]
  refine ⟨⟨?_, ?_, fun w' hw' h16' => ?_⟩, ?_, fun i' hi' h3' => ?_⟩
  · show (fmI (fmI M1 0 14 0) 34 5 0).1 46 2 = _
    rw [kk _ _ (by decide) (by decide), c.2.1 46 2 (by decide) (by decide), fmI_s, e32, h1]
  · have h9 := h3 (w - 1) (by rw [← h1]; omega) (by omega)
    have h8 : pairS (50 + (w - 1)) (66 + (w - 1)) (M2.1 (503 + (w - 1))) (fmI M 46 2 (M.1 46 2 - 1)) D := h9.cp hD (smS.same (fun j => by rw [fmI_k _ _ (by omega)]) (fun j => by rw [fmI_k _ _ (by omega)]) rfl) (fun _ _ => rfl)
    refine h8.cp hD (c.1.fr (fun j => kk _ _ (by decide) (by decide)) (fun j => kk _ _ (by decide) (by decide)) rfl) (fun j hj => ?_)
    show (fmI M3 0 33 0).1 7 j = M2.1 (503 + (w - 1)) j
    rw [fmI_k _ _ (by decide), p.1 j hj, fmI_k _ _ (by omega), fmI_k _ _ (by omega)]
  · rw [e32, ← h1, e1] at hw'
    exact (h3 w' (by rw [← h1]; omega) h16').cp hD (smS.same (fun j => (kx _ (by omega) (by omega) (by omega) (by omega) (by omega) j).1) (fun j => (kx _ (by omega) (by omega) (by omega) (by omega) (by omega) j).1) (kx _ (by omega) (by omega) (by omega) (by omega) (by omega) 6).2) (fun j _ => em _ _ (by omega) (by omega))
  · rw [e13, e34]
    exact h4
  · rw [e13] at hi'
    exact (h5 i' hi' h3').keep hD (fun k a b j => kx k (by omega) (by omega) (by omega) (by omega) (by omega) j) (em _ _ (by omega) (by omega)) (fun j hj => em _ _ (by omega) (by omega)) (fun w hw j hj => em _ _ (by omega) (by omega))
