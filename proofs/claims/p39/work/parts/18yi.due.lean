/-- the first k from k on for which F holds, of f -/
def duS (F : Nat → Bool) : Nat → Nat → Int
  | 0, _ => -1
  | f + 1, k => if F k = true then (k : Int) else duS F f (k + 1)
theorem du_t {F : Nat → Bool} {f k : Nat} (h : F k = true) : duS F (f + 1) k = (k : Int) := if_pos h
theorem du_f {F : Nat → Bool} {f k : Nat} (h : F k = false) : duS F (f + 1) k = duS F f (k + 1) := if_neg (by rw [h]; decide)
theorem nI_ad {a b : Nat} : nI a + nI b = nI (a + b) := by
  show Int32.ofNat a + Int32.ofNat b = Int32.ofNat (a + b)
  rw [Int32.ofNat_add]
/-- so many weeks may be looked ahead -/
def amW (S : aS) : Nat := min 60 (200 - S.1.1)
def duA (D : dD) (cs : tC) (S : aS) (i : Nat) (y : Int) : Int := if S.2 i = -1 then -1 else duS (fun k => decide (y ≤ wrS D cs S.1.2.2.1 (S.1.1 + k) i ((S.2 i).toNat + k))) (amW S + 1) 0
set_option maxRecDepth 20000 in
theorem c_xam {M : fmM} {Q : fmR → fmM → Prop} {D : dD} {S : aS} (hs : xst M D S) (ho : stO D S) (hq : ∀ r : Int32, r.toInt = ((amW S : Nat) : Int) → Q (.inl (some (.int r))) M) : pvGood Tx 2 qX10_aheadMost [.ref 0] M Q := by
  refine pvGood_of (Nat.le_of_ble_eq_true rfl) ?_
  show pvEv Tx 2 qX10_aheadMost 0 [some (.ref 0)] [] M Q
  have w2 := ho.1
  have g2 := hs.2.1
  have z60 : (60 : Int32).toInt = 60 := (by decide)
  have z200 : (200 : Int32).toInt = 200 := (by decide)
  refine pv_bipush (pc := 0) (v := 60) (by decide) (fm_dec dtX10_aheadMost 0 rfl) ?_
  refine pv_sipush (pc := 2) (v := 200) (by decide) (fm_dec dtX10_aheadMost 1 rfl) ?_
  refine pv_aloadn (pc := 5) (n := 0) 0 rfl rfl (fm_dec dtX10_aheadMost 2 rfl) ?_
  refine pv_getR (k := 0) (j := 9) (ci := 10) (pc := 6) 46 rfl (by decide) pfl_X10_75 (by decide) rfl (by decide) (fm_dec dtX10_aheadMost 3 rfl) ?_
  refine pv_getR (k := 46) (j := 0) (ci := 5) (pc := 9) 47 rfl (by decide) pfl_X10_90 (by decide) rfl (by decide) (fm_dec dtX10_aheadMost 4 rfl) ?_
  refine pv_getI (k := 47) (j := 2) (ci := 6) (pc := 12) pfl_X10_173 (by decide) rfl (by decide) (fm_dec dtX10_aheadMost 5 rfl) ?_
  refine pv_isub (pc := 15) (fm_dec dtX10_aheadMost 6 rfl) ?_
  refine pv_mm (pc := 16) pmm_X10_352 (by decide) (Nat.le_of_ble_eq_true rfl) (fm_dec dtX10_aheadMost 7 rfl) ?_
  exact pv_ireturn (pc := 19) rfl (fm_dec dtX10_aheadMost 8 rfl) (hq _ (by rw [mxf, z60, sc_sub (by omega) (by omega), z200, g2]; unfold amW; omega))
set_option maxRecDepth 20000 in
theorem xdu_loop {Q : fmR → fmM → Prop} {D : dD} {cs : tC} {S : aS} {i : Nat} {y : Int32} (hi : i < D.1) (hne : ¬ S.2 i = -1) : ∀ (m : Nat) (k : Nat) (M : fmM), xAq M D cs S → k + m = amW S + 1 → (∀ (r : Int32) (M' : fmM), r.toInt = duS (fun k => decide (y.toInt ≤ wrS D cs S.1.2.2.1 (S.1.1 + k) i ((S.2 i).toNat + k))) m k → Q (.inl (some (.int r))) M') → pvEv Tx 40 qX10_due 36 [some (.ref 0), some (.int (nI i)), some (.int y), some (.int (nI (S.2 i).toNat)), some (.int (nI k))] [] M Q := by
  intro m
  induction m using Nat.strongRecOn with
  | _ m ih =>
    intro k M h hkm hq
    have h9q := h
    obtain ⟨hD, hX, hL, hs, ho⟩ := h9q
    have d8 := hD.1
    have ab := ag_b ho hi
    have hk9 : (nI k).toInt = (k : Int) := nI_toInt (by have : amW S ≤ 60 := Nat.min_le_left _ _; omega)
    refine pv_iload (pc := 36) (i := 4) rfl (fm_dec dtX10_due 22 rfl) ?_
    refine pv_aloadn (pc := 38) (n := 0) 0 rfl rfl (fm_dec dtX10_due 23 rfl) ?_
    refine pv_invV0 (k := 0) (d' := 2) (pc := 39) pcv_X10_277 (by decide) rfl (Nat.le_of_ble_eq_true rfl) (by decide) (fm_dec dtX10_due 24 rfl) ?_
    refine c_xam hs ho (fun r39 e39 => ?_)
    refine pv_then1 ?_
    refine pv_icmp_gt (pc := 42) 79 (by decide) (fm_dec dtX10_due 25 rfl) (fun hc42 => ?_) (fun hc42 => ?_)
    · refine pv_iconst (pc := 79) (v := (-1)) (by decide) (fm_dec dtX10_due 43 rfl) ?_
      exact pv_ireturn (pc := 80) rfl (fm_dec dtX10_due 44 rfl) (by have e9 : m = 0 := (by rw [sc_lt] at hc42; omega); subst e9; exact hq _ _ (by show (-1 : Int32).toInt = (-1 : Int); decide))
    · have hk : k ≤ amW S := (by rw [sc_lt] at hc42; omega)
      have w2 := ho.1
      have ak : amW S ≤ 60 := Nat.min_le_left _ _
      have ak2 : amW S ≤ 200 - S.1.1 := Nat.min_le_right _ _
      refine pv_aloadn (pc := 45) (n := 0) 0 rfl rfl (fm_dec dtX10_due 26 rfl) ?_
      refine pv_getR (k := 0) (j := 6) (ci := 10) (pc := 46) 32 rfl (by decide) pfl_X10_52 (by decide) rfl (by decide) (fm_dec dtX10_due 27 rfl) ?_
      refine pv_aloadn (pc := 49) (n := 0) 0 rfl rfl (fm_dec dtX10_due 28 rfl) ?_
      refine pv_getR (k := 0) (j := 9) (ci := 10) (pc := 50) 46 rfl (by decide) pfl_X10_75 (by decide) rfl (by decide) (fm_dec dtX10_due 29 rfl) ?_
      refine pv_getR (k := 46) (j := 0) (ci := 5) (pc := 53) 47 rfl (by decide) pfl_X10_90 (by decide) rfl (by decide) (fm_dec dtX10_due 30 rfl) ?_
      refine pv_iloadn (pc := 56) (n := 1) 1 rfl rfl (fm_dec dtX10_due 31 rfl) ?_
      refine pv_iload (pc := 57) (i := 4) rfl (fm_dec dtX10_due 32 rfl) ?_
      refine pv_iloadn (pc := 59) (n := 3) 3 rfl rfl (fm_dec dtX10_due 33 rfl) ?_
      refine pv_iload (pc := 60) (i := 4) rfl (fm_dec dtX10_due 34 rfl) ?_
      refine pv_iadd (pc := 62) (fm_dec dtX10_due 35 rfl) ?_
      rw [nI_ad]
      refine pv_invV4 (k := 32) (d' := 2) (pc := 63) pcv_X10_229 (by decide) rfl (Nat.le_of_ble_eq_true rfl) (by decide) (fm_dec dtX10_due 36 rfl) ?_
      refine c_xwrgG (w := S.1.1 + k) hD hX hL hs ho hi (by rw [sc_add (by have := hs.2.1; omega) (by have := hs.2.1; omega), hs.2.1, hk9]; omega) (by omega) (by omega) (fun M63 r63 g63 h63 e63 => ?_)
      refine pv_then1 ?_
      refine pv_iloadn (pc := 66) (n := 2) 2 rfl rfl (fm_dec dtX10_due 37 rfl) ?_
      refine pv_icmp_lt (pc := 67) 73 (by decide) (fm_dec dtX10_due 38 rfl) (fun hc67 => ?_) (fun hc67 => ?_)
      · refine pv_iincc (pc := 73) 4 1 (by decide) rfl (by decide) rfl (fm_dec dtX10_due 41 rfl) ?_
        dsimp only [List.set_cons_zero, List.set_cons_succ]
        refine pv_goto (pc := 76) 36 (by decide) (fm_dec dtX10_due 42 rfl) ?_
        obtain ⟨f, rfl⟩ : ∃ f, m = f + 1 := ⟨m - 1, by omega⟩
        rw [du_f (decide_eq_false (by rw [sc_lt] at hc67; omega))] at hq
        rw [nI_succ1]
        exact ih f (by omega) (k + 1) M63 (h.low g63 h63) (by omega) hq
      · refine pv_iload (pc := 70) (i := 4) rfl (fm_dec dtX10_due 39 rfl) ?_
        exact pv_ireturn (pc := 72) rfl (fm_dec dtX10_due 40 rfl) (by obtain ⟨f, rfl⟩ : ∃ f, m = f + 1 := ⟨m - 1, by omega⟩; exact hq _ _ (by rw [du_t (decide_eq_true (by rw [sc_lt] at hc67; omega))]; exact hk9))
set_option maxRecDepth 20000 in
theorem c_xdue {M : fmM} {Q : fmR → fmM → Prop} {D : dD} {cs : tC} {S : aS} {x y : Int32} (h : xAq M D cs S) (hn1 : ¬ inL D x → Q (.inr fmNSE) (fmI M 0 15 (M.1 0 15 + 1))) (hn2 : inL D x → ¬ (inW y 0 65) → Q (.inr fmIAE) (fmI M 0 16 (M.1 0 16 + 1))) (hq : inL D x → inW y 0 65 → ∀ (r : Int32) (M' : fmM), r.toInt = duA D cs S x.toInt.toNat y.toInt → Q (.inl (some (.int r))) M') : pvGood Tx 41 qX10_due [.ref 0, .int x, .int y] M Q := by
  refine pvGood_of (Nat.le_of_ble_eq_true rfl) ?_
  show pvEv Tx 41 qX10_due 0 [some (.ref 0), some (.int x), some (.int y), none, none] [] M Q
  have hxq := h
  obtain ⟨hD, hX, hL, hs, ho⟩ := h
  have d8 := hD.1
  have hl9 : (M.1 3 9).toInt = (D.1 : Int) := hX.1.1
  refine pv_aloadn (pc := 0) (n := 0) 0 rfl rfl (fm_dec dtX10_due 0 rfl) ?_
  refine pv_iloadn (pc := 1) (n := 1) 1 rfl rfl (fm_dec dtX10_due 1 rfl) ?_
  refine pv_invV1 (k := 0) (d' := 0) (pc := 2) pcv_X10_197 (by decide) rfl (Nat.le_of_ble_eq_true rfl) (by decide) (fm_dec dtX10_due 2 rfl) ?_
  refine c_needL (fun h2a h2b => ?_) (fun h2 => ?_)
  · refine pv_then0 ?_
    have hn : inL D x := ⟨h2a, by omega⟩
    obtain ⟨i, hi, rfl, ei⟩ := hn.n hD
    rw [ei] at hq
    have hi9 : (nI i).toInt = (i : Int) := nI_toInt (by omega)
    have hi8 : i < 8 := (by omega)
    have g := ag_x hs hi
    have ab := ag_b ho hi
    refine pv_aloadn (pc := 5) (n := 0) 0 rfl rfl (fm_dec dtX10_due 3 rfl) ?_
    refine pv_iloadn (pc := 6) (n := 2) 2 rfl rfl (fm_dec dtX10_due 4 rfl) ?_
    refine pv_iconst (pc := 7) (v := 0) (by decide) (fm_dec dtX10_due 5 rfl) ?_
    refine pv_bipush (pc := 8) (v := 65) (by decide) (fm_dec dtX10_due 6 rfl) ?_
    refine pv_invV3 (k := 0) (d' := 0) (pc := 10) pcv_X10_169 (by decide) rfl (Nat.le_of_ble_eq_true rfl) (by decide) (fm_dec dtX10_due 7 rfl) ?_
    refine c_needW (fun h10a h10b => ?_) (fun h10 => ?_)
    · refine pv_then0 ?_
      refine pv_aloadn (pc := 13) (n := 0) 0 rfl rfl (fm_dec dtX10_due 8 rfl) ?_
      refine pv_getR (k := 0) (j := 9) (ci := 10) (pc := 14) 46 rfl (by decide) pfl_X10_75 (by decide) rfl (by decide) (fm_dec dtX10_due 9 rfl) ?_
      refine pv_getR (k := 46) (j := 0) (ci := 5) (pc := 17) 47 rfl (by decide) pfl_X10_90 (by decide) rfl (by decide) (fm_dec dtX10_due 10 rfl) ?_
      refine pv_getR (k := 47) (j := 0) (ci := 6) (pc := 20) 48 rfl (by decide) pfl_X10_219 (by decide) rfl (by decide) (fm_dec dtX10_due 11 rfl) ?_
      refine pv_iloadn (pc := 23) (n := 1) 1 rfl rfl (fm_dec dtX10_due 12 rfl) ?_
      refine pv_iald (k := 48) (n := 8) (pc := 24) (by decide) rfl rfl (ix_in hi9 (by omega)) (fm_dec dtX10_due 13 rfl) ?_
      rw [i32_cl hi9]
      refine pv_istoren (pc := 25) (n := 3) 3 rfl (by decide) rfl (fm_dec dtX10_due 14 rfl) ?_
      dsimp only [List.set_cons_zero, List.set_cons_succ]
      refine pv_iloadn (pc := 26) (n := 3) 3 rfl rfl (fm_dec dtX10_due 15 rfl) ?_
      refine pv_iconst (pc := 27) (v := (-1)) (by decide) (fm_dec dtX10_due 16 rfl) ?_
      refine pv_icmp_ne (pc := 28) 33 (by decide) (fm_dec dtX10_due 17 rfl) (fun hc28 => ?_) (fun hc28 => ?_)
      · obtain ⟨exn, hne⟩ := ag_n hs ho hi hc28
        rw [exn]
        refine pv_iconst (pc := 33) (v := 0) (by decide) (fm_dec dtX10_due 20 rfl) ?_
        refine pv_istore (pc := 34) (i := 4) (by decide) rfl (fm_dec dtX10_due 21 rfl) ?_
        dsimp only [List.set_cons_zero, List.set_cons_succ]
        refine (xdu_loop hi hne (amW S + 1) 0 M hxq (by omega) (fun r M' e => hq hn ⟨h10a, h10b⟩ _ _ (by unfold duA; rw [if_neg hne]; exact e))).up (by decide)
      · refine pv_iconst (pc := 31) (v := (-1)) (by decide) (fm_dec dtX10_due 18 rfl) ?_
        exact pv_ireturn (pc := 32) rfl (fm_dec dtX10_due 19 rfl) (hq hn ⟨h10a, h10b⟩ _ _ (by unfold duA; rw [if_pos (ag_m hs hi hc28)]; decide))
    · refine pv_thenX ?_
      first | exact hn2 hn (fun h9 => h10 ⟨h9.1, h9.2⟩) | exact hn1 (fun h8 => h2 ⟨h8.1, by have := h8.2; omega⟩)
  · refine pv_thenX ?_
    first | exact hn2 hn (fun h9 => h10 ⟨h9.1, h9.2⟩) | exact hn1 (fun h8 => h2 ⟨h8.1, by have := h8.2; omega⟩)
set_option maxRecDepth 20000 in
theorem mdu_loop {Q : fmR → fmM → Prop} {D : dD} {cs : tC} {S : aS} {i : Nat} {y : Int32} (hi : i < D.1) (hne0 : ¬ S.2 i = -1) : ∀ (m : Nat) (k : Nat) (M : fmM), (mAq M D cs S ∧ M.1 0 0 = 0) → k + m = amW S + 1 → (∀ (r : Int32) (M' : fmM), M'.1 0 0 = 0 → r.toInt = duS (fun k => decide (y.toInt ≤ wrS D cs S.1.2.2.1 (S.1.1 + k) i ((S.2 i).toNat + k))) m k → Q (.inl (some (.int r))) M') → pvEv Tm 40 qX11_due 55 [some (.ref 0), some (.int (nI i)), some (.int y), some (.int (nI k))] [] M Q := by
  intro m
  induction m using Nat.strongRecOn with
  | _ m ih =>
    intro k M h hkm hq
    have h9q := h.1
    obtain ⟨hD, hY, hM, hd, ht, ho⟩ := h9q
    have d8 := hD.1
    have ab := ag_b ho hi
    have w2 := ho.1
    have ak : amW S ≤ 60 := Nat.min_le_left _ _
    have hi9 : (nI i).toInt = (i : Int) := nI_toInt (by omega)
    have hi8 : i < 8 := (by omega)
    have h1i := one_i hi8
    have g := ht.2.2.2.2.2.2 i hi
    have z60 : (60 : Int32).toInt = 60 := (by decide)
    have z200 : (200 : Int32).toInt = 200 := (by decide)
    have g10 : (M.1 7 (Int32.toNatClampNeg 10)).toInt = (S.1.1 : Int) := ht.2.1
    have hk9 : (nI k).toInt = (k : Int) := nI_toInt (by omega)
    refine pv_iloadn (pc := 55) (n := 3) 3 rfl rfl (fm_dec dtX11_due 32 rfl) ?_
    refine pv_bipush (pc := 56) (v := 60) (by decide) (fm_dec dtX11_due 33 rfl) ?_
    refine pv_icmp_gt (pc := 58) 125 (by decide) (fm_dec dtX11_due 34 rfl) (fun hc58 => ?_) (fun hc58 => ?_)
    · refine pv_iconst (pc := 125) (v := (-1)) (by decide) (fm_dec dtX11_due 71 rfl) ?_
      exact pv_ireturn (pc := 126) rfl (fm_dec dtX11_due 72 rfl) (by have e9 : m = 0 := (by rw [sc_lt] at hc58; unfold amW at hkm; omega); subst e9; exact hq _ _ h.2 (by show (-1 : Int32).toInt = (-1 : Int); decide))
    · rw [sc_lt] at hc58
      refine pv_aloadn (pc := 61) (n := 0) 0 rfl rfl (fm_dec dtX11_due 35 rfl) ?_
      refine pv_getR (k := 0) (j := 27) (ci := 11) (pc := 62) 7 rfl (by decide) pfl_X11_61 (by decide) rfl (by decide) (fm_dec dtX11_due 36 rfl) ?_
      refine pv_iloadn (pc := 65) (n := 1) 1 rfl rfl (fm_dec dtX11_due 37 rfl) ?_
      refine pv_iS2 (d' := 0) (pc := 66) pcs_X11_283 (Nat.le_of_ble_eq_true rfl) (by decide) (fm_dec dtX11_due 38 rfl) ?_
      refine c_hasPiece7 hi9 hi8 (fun h66 => ?_) (fun h66 => ?_)
      · refine pv_then1 ?_
        refine pv_if_eq (pc := 69) 125 (by decide) (fm_dec dtX11_due 39 rfl) (fun hc69 => by exfalso; revert hc69; decide) (fun _ => ?_)
        have hne : ¬ S.2 i = -1 := (fun e => h66 ((ht.no ho hi).mpr e))
        rw [if_neg hne] at g
        refine pv_aloadn (pc := 72) (n := 0) 0 rfl rfl (fm_dec dtX11_due 40 rfl) ?_
        refine pv_getR (k := 0) (j := 27) (ci := 11) (pc := 73) 7 rfl (by decide) pfl_X11_61 (by decide) rfl (by decide) (fm_dec dtX11_due 41 rfl) ?_
        refine pv_bipush (pc := 76) (v := 10) (by decide) (fm_dec dtX11_due 42 rfl) ?_
        refine pv_iald (k := 7) (n := 14) (pc := 78) (by decide) rfl rfl (fm_inl (by decide)) (fm_dec dtX11_due 43 rfl) ?_
        refine pv_iloadn (pc := 79) (n := 3) 3 rfl rfl (fm_dec dtX11_due 44 rfl) ?_
        refine pv_iadd (pc := 80) (fm_dec dtX11_due 45 rfl) ?_
        refine pv_sipush (pc := 81) (v := 200) (by decide) (fm_dec dtX11_due 46 rfl) ?_
        refine pv_icmp_gt (pc := 84) 125 (by decide) (fm_dec dtX11_due 47 rfl) (fun hc84 => ?_) (fun hc84 => ?_)
        · refine pv_iconst (pc := 125) (v := (-1)) (by decide) (fm_dec dtX11_due 71 rfl) ?_
          exact pv_ireturn (pc := 126) rfl (fm_dec dtX11_due 72 rfl) (by have e9 : m = 0 := (by rw [sc_lt, sc_add (by rw [g10]; omega) (by rw [g10]; omega), g10] at hc84; unfold amW at hkm; omega); subst e9; exact hq _ _ h.2 (by show (-1 : Int32).toInt = (-1 : Int); decide))
        · have hk : k ≤ amW S := (by rw [sc_lt, sc_add (by rw [g10]; omega) (by rw [g10]; omega), g10] at hc84; unfold amW; omega)
          refine pv_aloadn (pc := 87) (n := 0) 0 rfl rfl (fm_dec dtX11_due 48 rfl) ?_
          refine pv_aloadn (pc := 88) (n := 0) 0 rfl rfl (fm_dec dtX11_due 49 rfl) ?_
          refine pv_getR (k := 0) (j := 27) (ci := 11) (pc := 89) 7 rfl (by decide) pfl_X11_61 (by decide) rfl (by decide) (fm_dec dtX11_due 50 rfl) ?_
          refine pv_iloadn (pc := 92) (n := 1) 1 rfl rfl (fm_dec dtX11_due 51 rfl) ?_
          refine pv_aloadn (pc := 93) (n := 0) 0 rfl rfl (fm_dec dtX11_due 52 rfl) ?_
          refine pv_getR (k := 0) (j := 27) (ci := 11) (pc := 94) 7 rfl (by decide) pfl_X11_61 (by decide) rfl (by decide) (fm_dec dtX11_due 53 rfl) ?_
          refine pv_iconst (pc := 97) (v := 1) (by decide) (fm_dec dtX11_due 54 rfl) ?_
          refine pv_iloadn (pc := 98) (n := 1) 1 rfl rfl (fm_dec dtX11_due 55 rfl) ?_
          refine pv_iadd (pc := 99) (fm_dec dtX11_due 56 rfl) ?_
          refine pv_iald (k := 7) (n := 14) (pc := 100) (by decide) rfl rfl (ix_in h1i (by omega)) (fm_dec dtX11_due 57 rfl) ?_
          rw [i32_cl h1i]
          refine pv_aloadn (pc := 101) (n := 0) 0 rfl rfl (fm_dec dtX11_due 58 rfl) ?_
          refine pv_getR (k := 0) (j := 27) (ci := 11) (pc := 102) 7 rfl (by decide) pfl_X11_61 (by decide) rfl (by decide) (fm_dec dtX11_due 59 rfl) ?_
          refine pv_bipush (pc := 105) (v := 10) (by decide) (fm_dec dtX11_due 60 rfl) ?_
          refine pv_iald (k := 7) (n := 14) (pc := 107) (by decide) rfl rfl (fm_inl (by decide)) (fm_dec dtX11_due 61 rfl) ?_
          refine pv_iloadn (pc := 108) (n := 3) 3 rfl rfl (fm_dec dtX11_due 62 rfl) ?_
          refine pv_iadd (pc := 109) (fm_dec dtX11_due 63 rfl) ?_
          refine pv_invV4 (k := 0) (d' := 5) (pc := 110) pcv_X11_276 (by decide) rfl (Nat.le_of_ble_eq_true rfl) (by decide) (fm_dec dtX11_due 64 rfl) ?_
          refine c_mwrgG (wN := S.1.1 + k) (a := (S.2 i).toNat + k) hD hY hM hd ht ho hi (by rw [sc_add (by rw [g10]; omega) (by rw [g10]; omega), g10, hk9]; omega) (by omega) (by rw [g]; omega) (by omega) (fun M110 r110 g110 h110 e110 => ?_)
          refine pv_then1 ?_
          refine pv_iloadn (pc := 113) (n := 2) 2 rfl rfl (fm_dec dtX11_due 65 rfl) ?_
          refine pv_icmp_lt (pc := 114) 119 (by decide) (fm_dec dtX11_due 66 rfl) (fun hc114 => ?_) (fun hc114 => ?_)
          · refine pv_iincc (pc := 119) 3 1 (by decide) rfl (by decide) rfl (fm_dec dtX11_due 69 rfl) ?_
            dsimp only [List.set_cons_zero, List.set_cons_succ]
            refine pv_goto (pc := 122) 55 (by decide) (fm_dec dtX11_due 70 rfl) ?_
            obtain ⟨f, rfl⟩ : ∃ f, m = f + 1 := ⟨m - 1, by omega⟩
            rw [du_f (decide_eq_false (by rw [sc_lt] at hc114; omega))] at hq
            rw [nI_succ1]
            exact ih f (by omega) (k + 1) M110 ⟨h.1.low (fun k j _ a b => g110 k j a b) (g110 0 17 (by decide) (by decide)), (g110 0 0 (by decide) (by decide)).trans h.2⟩ (by omega) hq
          · refine pv_iloadn (pc := 117) (n := 3) 3 rfl rfl (fm_dec dtX11_due 67 rfl) ?_
            exact pv_ireturn (pc := 118) rfl (fm_dec dtX11_due 68 rfl) (by obtain ⟨f, rfl⟩ : ∃ f, m = f + 1 := ⟨m - 1, by omega⟩; exact hq _ _ ((g110 0 0 (by decide) (by decide)).trans h.2) (by rw [du_t (decide_eq_true (by rw [sc_lt] at hc114; omega))]; exact hk9))
      · refine pv_then1 ?_
        refine pv_if_eq (pc := 69) 125 (by decide) (fm_dec dtX11_due 39 rfl) (fun _ => ?_) (fun hc69 => by exfalso; revert hc69; decide)
        refine pv_iconst (pc := 125) (v := (-1)) (by decide) (fm_dec dtX11_due 71 rfl) ?_
        exact pv_ireturn (pc := 126) rfl (fm_dec dtX11_due 72 rfl) (absurd ((ht.no ho hi).mp h66) hne0)
set_option maxRecDepth 20000 in
theorem mdu_no {Q : fmR → fmM → Prop} {M : fmM} {D : dD} {cs : tC} {S : aS} {i : Nat} {y : Int32} (hi : i < D.1) (hm : S.2 i = -1) (h : mAq M D cs S) (hq : Q (.inl (some (.int (-1)))) M) : pvEv Tm 40 qX11_due 55 [some (.ref 0), some (.int (nI i)), some (.int y), some (.int 0)] [] M Q := by
  have d8 := h.1.1
  have hi9 : (nI i).toInt = (i : Int) := nI_toInt (by omega)
  have hi8 : i < 8 := (by omega)
  refine pv_iloadn (pc := 55) (n := 3) 3 rfl rfl (fm_dec dtX11_due 32 rfl) ?_
  refine pv_bipush (pc := 56) (v := 60) (by decide) (fm_dec dtX11_due 33 rfl) ?_
  refine pv_icmp_gt (pc := 58) 125 (by decide) (fm_dec dtX11_due 34 rfl) (fun hc58 => by exfalso; revert hc58; decide) (fun _ => ?_)
  refine pv_aloadn (pc := 61) (n := 0) 0 rfl rfl (fm_dec dtX11_due 35 rfl) ?_
  refine pv_getR (k := 0) (j := 27) (ci := 11) (pc := 62) 7 rfl (by decide) pfl_X11_61 (by decide) rfl (by decide) (fm_dec dtX11_due 36 rfl) ?_
  refine pv_iloadn (pc := 65) (n := 1) 1 rfl rfl (fm_dec dtX11_due 37 rfl) ?_
  refine pv_iS2 (d' := 0) (pc := 66) pcs_X11_283 (Nat.le_of_ble_eq_true rfl) (by decide) (fm_dec dtX11_due 38 rfl) ?_
  refine c_hasPiece7 hi9 hi8 (fun h66 => absurd ((h.2.2.2.2.1.no h.2.2.2.2.2 hi).mpr hm) h66) (fun h66 => ?_) 
  refine pv_then1 ?_
  refine pv_if_eq (pc := 69) 125 (by decide) (fm_dec dtX11_due 39 rfl) (fun _ => ?_) (fun hc69 => by exfalso; revert hc69; decide)
  refine pv_iconst (pc := 125) (v := (-1)) (by decide) (fm_dec dtX11_due 71 rfl) ?_
  exact pv_ireturn (pc := 126) rfl (fm_dec dtX11_due 72 rfl) hq
set_option maxRecDepth 20000 in
theorem c_mdue {M : fmM} {Q : fmR → fmM → Prop} {D : dD} {cs : tC} {S : aS} {x y : Int32} (h : mAq M D cs S) (hn1 : ¬ inL D x → ∀ (z : Int32) (M' : fmM), M'.1 0 0 = 1 → Q (.inl (some (.int z))) M') (hn2 : inL D x → ¬ (inW y 0 65) → ∀ (z : Int32) (M' : fmM), M'.1 0 0 = 2 → Q (.inl (some (.int z))) M') (hq : inL D x → inW y 0 65 → ∀ (r : Int32) (M' : fmM), M'.1 0 0 = 0 → r.toInt = duA D cs S x.toInt.toNat y.toInt → Q (.inl (some (.int r))) M') : pvGood Tm 41 qX11_due [.ref 0, .int x, .int y] M Q := by
  refine pvGood_of (Nat.le_of_ble_eq_true rfl) ?_
  show pvEv Tm 41 qX11_due 0 [some (.ref 0), some (.int x), some (.int y), none] [] M Q
  have hmq := h.z (x := 0)
  obtain ⟨hD, hY, hM, hd, ht, ho⟩ := hmq
  have d8 := hD.1
  have h4 : (M.1 4 0).toInt = (D.1 : Int) := hY.1
  have hl := hD.1
  refine pv_aloadn (pc := 0) (n := 0) 0 rfl rfl (fm_dec dtX11_due 0 rfl) ?_
  refine pv_iconst (pc := 1) (v := 0) (by decide) (fm_dec dtX11_due 1 rfl) ?_
  refine pv_putI (k := 0) (j := 0) (ci := 11) (pc := 2) pfl_X11_101 (by decide) rfl (by decide) (fm_dec dtX11_due 2 rfl) ?_
  refine pv_aloadn (pc := 5) (n := 0) 0 rfl rfl (fm_dec dtX11_due 3 rfl) ?_
  refine pv_aloadn (pc := 6) (n := 0) 0 rfl rfl (fm_dec dtX11_due 4 rfl) ?_
  refine pv_iloadn (pc := 7) (n := 1) 1 rfl rfl (fm_dec dtX11_due 5 rfl) ?_
  refine pv_invV1 (k := 0) (d' := 1) (pc := 8) pcv_X11_331 (by decide) rfl (Nat.le_of_ble_eq_true rfl) (by decide) (fm_dec dtX11_due 6 rfl) ?_
  refine c_isLife (M := fmI M 0 0 0) h4 hl (fun k hk hkl => ?_) (fun hno => ?_)
  · refine pv_then1 ?_
    refine pv_if_ne (pc := 11) 18 (by decide) (fm_dec dtX11_due 7 rfl) (fun _ => ?_) (fun hc11 => by exfalso; revert hc11; decide)
    refine pv_iconst (pc := 18) (v := 0) (by decide) (fm_dec dtX11_due 10 rfl) ?_
    refine pv_iconst (pc := 19) (v := 1) (by decide) (fm_dec dtX11_due 11 rfl) ?_
    refine pv_iconst (pc := 20) (v := 0) (by decide) (fm_dec dtX11_due 12 rfl) ?_
    refine pv_invV3 (k := 0) (d' := 0) (pc := 21) pcv_X11_177 (by decide) rfl (Nat.le_of_ble_eq_true rfl) (by decide) (fm_dec dtX11_due 13 rfl) ?_
    refine c_badF0 rfl ?_
    refine pv_then1 ?_
    refine pv_if_ne (pc := 24) 51 (by decide) (fm_dec dtX11_due 14 rfl) (fun hc24 => by exfalso; revert hc24; decide) (fun _ => ?_)
    have hn : inL D x := ⟨by omega, by omega⟩
    obtain ⟨i, hi, rfl, ei⟩ := hn.n hD
    rw [ei] at hq
    have hi9 : (nI i).toInt = (i : Int) := nI_toInt (by omega)
    have hi8 : i < 8 := (by omega)
    refine pv_aloadn (pc := 27) (n := 0) 0 rfl rfl (fm_dec dtX11_due 15 rfl) ?_
    refine pv_iloadn (pc := 28) (n := 2) 2 rfl rfl (fm_dec dtX11_due 16 rfl) ?_
    refine pv_iconst (pc := 29) (v := 0) (by decide) (fm_dec dtX11_due 17 rfl) ?_
    refine pv_bipush (pc := 30) (v := 65) (by decide) (fm_dec dtX11_due 18 rfl) ?_
    refine pv_iS3 (d' := 0) (pc := 32) pcs_X11_135 (Nat.le_of_ble_eq_true rfl) (by decide) (fm_dec dtX11_due 19 rfl) ?_
    refine c_in (fun h32a h32b => ?_) (fun h32 => ?_)
    · refine pv_then1 ?_
      refine pv_if_ne (pc := 35) 42 (by decide) (fm_dec dtX11_due 20 rfl) (fun _ => ?_) (fun hc35 => by exfalso; revert hc35; decide)
      refine pv_iconst (pc := 42) (v := 0) (by decide) (fm_dec dtX11_due 23 rfl) ?_
      refine pv_iconst (pc := 43) (v := 2) (by decide) (fm_dec dtX11_due 24 rfl) ?_
      refine pv_iconst (pc := 44) (v := 1) (by decide) (fm_dec dtX11_due 25 rfl) ?_
      refine pv_invV3 (k := 0) (d' := 0) (pc := 45) pcv_X11_177 (by decide) rfl (Nat.le_of_ble_eq_true rfl) (by decide) (fm_dec dtX11_due 26 rfl) ?_
      refine c_badF1 rfl ?_
      refine pv_then1 ?_
      refine pv_if_eq (pc := 48) 53 (by decide) (fm_dec dtX11_due 27 rfl) (fun _ => ?_) (fun hc48 => by exfalso; revert hc48; decide)
      refine pv_iconst (pc := 53) (v := 0) (by decide) (fm_dec dtX11_due 30 rfl) ?_
      refine pv_istoren (pc := 54) (n := 3) 3 rfl (by decide) rfl (fm_dec dtX11_due 31 rfl) ?_
      dsimp only [List.set_cons_zero, List.set_cons_succ]
      by_cases hm : S.2 i = -1
      · refine (mdu_no hi hm ⟨hD, hY, hM, hd, ht, ho⟩ (hq hn ⟨h32a, h32b⟩ _ _ rfl ?_)).up (by decide)
        unfold duA
        rw [if_pos hm]
        decide
      · refine (mdu_loop hi hm (amW S + 1) 0 _ ⟨⟨hD, hY, hM, hd, ht, ho⟩, rfl⟩ (by omega) (fun r M' z e => hq hn ⟨h32a, h32b⟩ _ _ z ?_)).up (by decide)
        unfold duA
        rw [if_neg hm]
        exact e
    · refine pv_then1 ?_
      refine pv_if_ne (pc := 35) 42 (by decide) (fm_dec dtX11_due 20 rfl) (fun hc35 => by exfalso; revert hc35; decide) (fun _ => ?_)
      refine pv_iconst (pc := 38) (v := 1) (by decide) (fm_dec dtX11_due 21 rfl) ?_
      refine pv_goto (pc := 39) 43 (by decide) (fm_dec dtX11_due 22 rfl) ?_
      refine pv_iconst (pc := 43) (v := 2) (by decide) (fm_dec dtX11_due 24 rfl) ?_
      refine pv_iconst (pc := 44) (v := 1) (by decide) (fm_dec dtX11_due 25 rfl) ?_
      refine pv_invV3 (k := 0) (d' := 0) (pc := 45) pcv_X11_177 (by decide) rfl (Nat.le_of_ble_eq_true rfl) (by decide) (fm_dec dtX11_due 26 rfl) ?_
      refine c_badT1 rfl (by decide) ?_
      refine pv_then1 ?_
      refine pv_if_eq (pc := 48) 53 (by decide) (fm_dec dtX11_due 27 rfl) (fun hc48 => by exfalso; revert hc48; decide) (fun _ => ?_)
      refine pv_iconst (pc := 51) (v := 0) (by decide) (fm_dec dtX11_due 28 rfl) ?_
      exact pv_ireturn (pc := 52) rfl (fm_dec dtX11_due 29 rfl) (hn2 hn (fun h9 => h32 ⟨h9.1, h9.2⟩) _ _ rfl)
  · refine pv_then1 ?_
    refine pv_if_ne (pc := 11) 18 (by decide) (fm_dec dtX11_due 7 rfl) (fun hc11 => by exfalso; revert hc11; decide) (fun _ => ?_)
    refine pv_iconst (pc := 14) (v := 1) (by decide) (fm_dec dtX11_due 8 rfl) ?_
    refine pv_goto (pc := 15) 19 (by decide) (fm_dec dtX11_due 9 rfl) ?_
    refine pv_iconst (pc := 19) (v := 1) (by decide) (fm_dec dtX11_due 11 rfl) ?_
    refine pv_iconst (pc := 20) (v := 0) (by decide) (fm_dec dtX11_due 12 rfl) ?_
    refine pv_invV3 (k := 0) (d' := 0) (pc := 21) pcv_X11_177 (by decide) rfl (Nat.le_of_ble_eq_true rfl) (by decide) (fm_dec dtX11_due 13 rfl) ?_
    refine c_badT0 rfl (by decide) ?_
    refine pv_then1 ?_
    refine pv_if_ne (pc := 24) 51 (by decide) (fm_dec dtX11_due 14 rfl) (fun _ => ?_) (fun hc24 => by exfalso; revert hc24; decide)
    refine pv_iconst (pc := 51) (v := 0) (by decide) (fm_dec dtX11_due 28 rfl) ?_
    exact pv_ireturn (pc := 52) rfl (fm_dec dtX11_due 29 rfl) (hn1 hno _ _ rfl)
theorem xe_due {M : fmM} {D : dD} {cs : tC} {S : aS} {x y : Int32} (h : xAq M D cs S) : pvGood Tx 250 qX10_due [.ref 0, .int x, .int y] M (fun r _ => (inL D x ∧ (inW y 0 65) ∧ r = .inl (some (.int (iZ (duA D cs S x.toInt.toNat y.toInt))))) ∨ (¬ inL D x ∧ r = .inr fmNSE) ∨ (inL D x ∧ ¬ (inW y 0 65) ∧ r = .inr fmIAE)) := (c_xdue h (fun h => Or.inr (Or.inl ⟨h, rfl⟩)) (fun h h' => Or.inr (Or.inr ⟨h, h', rfl⟩)) (fun h h' r M' e => Or.inl ⟨h, h', by rw [iZ_is e]⟩)).up (by decide)
theorem me_due {M : fmM} {D : dD} {cs : tC} {S : aS} {x y : Int32} (h : mAq M D cs S) : pvGood Tm 250 qX11_due [.ref 0, .int x, .int y] M (fun r M' => (inL D x ∧ (inW y 0 65) ∧ r = .inl (some (.int (iZ (duA D cs S x.toInt.toNat y.toInt)))) ∧ M'.1 0 0 = 0) ∨ (¬ inL D x ∧ M'.1 0 0 = 1) ∨ (inL D x ∧ ¬ (inW y 0 65) ∧ M'.1 0 0 = 2)) := (c_mdue h (fun h z M' e => Or.inr (Or.inl ⟨h, e⟩)) (fun h h' z M' e => Or.inr (Or.inr ⟨h, h', e⟩)) (fun h h' r M' z e => Or.inl ⟨h, h', by rw [iZ_is e], z⟩)).up (by decide)
