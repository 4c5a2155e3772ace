-- RUMOURS, exactly
def inW (x lo hi : Int32) : Prop := lo.toInt ≤ x.toInt ∧ x.toInt ≤ hi.toInt
def rgR (b v x y : Int32) : Prop := inW b 0 16 ∧ inW v 0 999 ∧ inW x 0 999 ∧ inW y 0 999
def mnV (t b v x y w : Int32) : Int32 := if w = 2 then t * (16 - b) * v else 16 * (t * v - (16 - t) * (if w = 0 then x else y))
def b1V (t b v x y : Int32) : Int32 := if mnV t b v x y 0 < mnV t b v x y 1 then 1 else 0
def bwV (t b v x y : Int32) : Int32 := if mnV t b v x y (b1V t b v x y) < mnV t b v x y 2 then 2 else b1V t b v x y
def lnV (b v x y : Int32) : Nat → Nat → Int32
  | 0, _ => -1
  | n + 1, t => if bwV (nI t) b v x y = 0 then nI t else lnV b v x y n (t + 1)
theorem glueI {P : Prop} {v : Int32} {r r2 : fmR} {M : fmM} (h : (P ∧ r = .inl (some (.int v))) ∨ (¬ P ∧ r = .inr fmIAE)) (h2 : (P ∧ r2 = .inl (some (.int v)) ∧ M.1 0 0 = 0) ∨ (¬ P ∧ M.1 0 0 = 1)) : mtI 1 0 r r2 M := by
  rcases h with ⟨p, rfl⟩ | ⟨p, rfl⟩
  · rcases h2 with ⟨_, e, t⟩ | ⟨q, _⟩
    · exact ⟨t, e⟩
    · exact absurd p q
  · rcases h2 with ⟨q, _⟩ | ⟨_, t⟩
    · exact absurd q p
    · exact ⟨fun _ => t, fun h => absurd h (by decide)⟩
set_option maxRecDepth 20000 in
theorem c_needW {M : fmM} {Q : fmR → fmM → Prop} {x lo hi : Int32} (ht : lo.toInt ≤ x.toInt → x.toInt ≤ hi.toInt → Q (.inl none) M) (hf : ¬ (lo.toInt ≤ x.toInt ∧ x.toInt ≤ hi.toInt) → Q (.inr fmIAE) (fmI M 0 16 (M.1 0 16 + 1))) : pvGood Tx 0 qX10_needWithin [.ref 0, .int x, .int lo, .int hi] M Q := by
  refine pvGood_of (Nat.le_of_ble_eq_true rfl) ?_
  show pvEv Tx 0 qX10_needWithin 0 [some (.ref 0), some (.int x), some (.int lo), some (.int hi)] [] M Q
  refine pv_iloadn (pc := 0) (n := 1) 1 rfl rfl (fm_dec dtX10_needWithin 0 rfl) ?_
  refine pv_iloadn (pc := 1) (n := 2) 2 rfl rfl (fm_dec dtX10_needWithin 1 rfl) ?_
  refine pv_icmp_lt (pc := 2) 10 (by decide) (fm_dec dtX10_needWithin 2 rfl) (fun hc2 => ?_) (fun hc2 => ?_)
  · refine pv_aloadn (pc := 10) (n := 0) 0 rfl rfl (fm_dec dtX10_needWithin 6 rfl) ?_
    refine pv_dup (pc := 11) rfl (fm_dec dtX10_needWithin 7 rfl) ?_
    refine pv_getI (k := 0) (j := 16) (ci := 10) (pc := 12) pfl_X10_366 (by decide) rfl (by decide) (fm_dec dtX10_needWithin 8 rfl) ?_
    refine pv_iconst (pc := 15) (v := 1) (by decide) (fm_dec dtX10_needWithin 9 rfl) ?_
    refine pv_iadd (pc := 16) (fm_dec dtX10_needWithin 10 rfl) ?_
    refine pv_putI (k := 0) (j := 16) (ci := 10) (pc := 17) pfl_X10_366 (by decide) rfl (by decide) (fm_dec dtX10_needWithin 11 rfl) ?_
    exact pv_thrI (pc := 20) pvK_10 (fm_dec dtX10_needWithin 12 rfl) (fm_dec dtX10_needWithin 13 rfl) (fm_dec dtX10_needWithin 14 rfl) (fm_dec dtX10_needWithin 15 rfl) (fm_dec dtX10_needWithin 16 rfl) (hf (by intro h9; first | (rw [sc_le] at hc7; omega) | (rw [sc_lt] at hc2; omega)))
  · refine pv_iloadn (pc := 5) (n := 1) 1 rfl rfl (fm_dec dtX10_needWithin 3 rfl) ?_
    refine pv_iloadn (pc := 6) (n := 3) 3 rfl rfl (fm_dec dtX10_needWithin 4 rfl) ?_
    refine pv_icmp_le (pc := 7) 31 (by decide) (fm_dec dtX10_needWithin 5 rfl) (fun hc7 => ?_) (fun hc7 => ?_)
    · exact pv_return (pc := 31) rfl (fm_dec dtX10_needWithin 17 rfl) (ht (by rw [sc_lt] at hc2; omega) (by rw [sc_le] at hc7; omega))
    · refine pv_aloadn (pc := 10) (n := 0) 0 rfl rfl (fm_dec dtX10_needWithin 6 rfl) ?_
      refine pv_dup (pc := 11) rfl (fm_dec dtX10_needWithin 7 rfl) ?_
      refine pv_getI (k := 0) (j := 16) (ci := 10) (pc := 12) pfl_X10_366 (by decide) rfl (by decide) (fm_dec dtX10_needWithin 8 rfl) ?_
      refine pv_iconst (pc := 15) (v := 1) (by decide) (fm_dec dtX10_needWithin 9 rfl) ?_
      refine pv_iadd (pc := 16) (fm_dec dtX10_needWithin 10 rfl) ?_
      refine pv_putI (k := 0) (j := 16) (ci := 10) (pc := 17) pfl_X10_366 (by decide) rfl (by decide) (fm_dec dtX10_needWithin 11 rfl) ?_
      exact pv_thrI (pc := 20) pvK_10 (fm_dec dtX10_needWithin 12 rfl) (fm_dec dtX10_needWithin 13 rfl) (fm_dec dtX10_needWithin 14 rfl) (fm_dec dtX10_needWithin 15 rfl) (fm_dec dtX10_needWithin 16 rfl) (hf (by intro h9; first | (rw [sc_le] at hc7; omega) | (rw [sc_lt] at hc2; omega)))
set_option maxRecDepth 20000 in
theorem c_needR {M : fmM} {Q : fmR → fmM → Prop} {b v x y : Int32} (ht : rgR b v x y → Q (.inl none) M) (hf : ¬ rgR b v x y → Q (.inr fmIAE) (fmI M 0 16 (M.1 0 16 + 1))) : pvGood Tx 1 qX10_needRumour [.ref 0, .int b, .int v, .int x, .int y] M Q := by
  refine pvGood_of (Nat.le_of_ble_eq_true rfl) ?_
  show pvEv Tx 1 qX10_needRumour 0 [some (.ref 0), some (.int b), some (.int v), some (.int x), some (.int y)] [] M Q
  refine pv_aloadn (pc := 0) (n := 0) 0 rfl rfl (fm_dec dtX10_needRumour 0 rfl) ?_
  refine pv_iloadn (pc := 1) (n := 1) 1 rfl rfl (fm_dec dtX10_needRumour 1 rfl) ?_
  refine pv_iconst (pc := 2) (v := 0) (by decide) (fm_dec dtX10_needRumour 2 rfl) ?_
  refine pv_bipush (pc := 3) (v := 16) (by decide) (fm_dec dtX10_needRumour 3 rfl) ?_
  refine pv_invV3 (k := 0) (d' := 0) (pc := 5) pcv_X10_169 (by decide) rfl (Nat.le_of_ble_eq_true rfl) (by decide) (fm_dec dtX10_needRumour 4 rfl) ?_
  refine c_needW (fun h5a h5b => ?_) (fun h5 => ?_)
  · refine pv_then0 ?_
    refine pv_aloadn (pc := 8) (n := 0) 0 rfl rfl (fm_dec dtX10_needRumour 5 rfl) ?_
    refine pv_iloadn (pc := 9) (n := 2) 2 rfl rfl (fm_dec dtX10_needRumour 6 rfl) ?_
    refine pv_iconst (pc := 10) (v := 0) (by decide) (fm_dec dtX10_needRumour 7 rfl) ?_
    refine pv_sipush (pc := 11) (v := 999) (by decide) (fm_dec dtX10_needRumour 8 rfl) ?_
    refine pv_invV3 (k := 0) (d' := 0) (pc := 14) pcv_X10_169 (by decide) rfl (Nat.le_of_ble_eq_true rfl) (by decide) (fm_dec dtX10_needRumour 9 rfl) ?_
    refine c_needW (fun h14a h14b => ?_) (fun h14 => ?_)
    · refine pv_then0 ?_
      refine pv_aloadn (pc := 17) (n := 0) 0 rfl rfl (fm_dec dtX10_needRumour 10 rfl) ?_
      refine pv_iloadn (pc := 18) (n := 3) 3 rfl rfl (fm_dec dtX10_needRumour 11 rfl) ?_
      refine pv_iconst (pc := 19) (v := 0) (by decide) (fm_dec dtX10_needRumour 12 rfl) ?_
      refine pv_sipush (pc := 20) (v := 999) (by decide) (fm_dec dtX10_needRumour 13 rfl) ?_
      refine pv_invV3 (k := 0) (d' := 0) (pc := 23) pcv_X10_169 (by decide) rfl (Nat.le_of_ble_eq_true rfl) (by decide) (fm_dec dtX10_needRumour 14 rfl) ?_
      refine c_needW (fun h23a h23b => ?_) (fun h23 => ?_)
      · refine pv_then0 ?_
        refine pv_aloadn (pc := 26) (n := 0) 0 rfl rfl (fm_dec dtX10_needRumour 15 rfl) ?_
        refine pv_iload (pc := 27) (i := 4) rfl (fm_dec dtX10_needRumour 16 rfl) ?_
        refine pv_iconst (pc := 29) (v := 0) (by decide) (fm_dec dtX10_needRumour 17 rfl) ?_
        refine pv_sipush (pc := 30) (v := 999) (by decide) (fm_dec dtX10_needRumour 18 rfl) ?_
        refine pv_invV3 (k := 0) (d' := 0) (pc := 33) pcv_X10_169 (by decide) rfl (Nat.le_of_ble_eq_true rfl) (by decide) (fm_dec dtX10_needRumour 19 rfl) ?_
        refine c_needW (fun h33a h33b => ?_) (fun h33 => ?_)
        · refine pv_then0 ?_
          exact pv_return (pc := 36) rfl (fm_dec dtX10_needRumour 20 rfl) (ht ⟨⟨h5a, h5b⟩, ⟨h14a, h14b⟩, ⟨h23a, h23b⟩, ⟨h33a, h33b⟩⟩)
        · refine pv_thenX ?_
          exact hf (fun h9 => h33 (by first | exact h9.1 | exact h9.2.1 | exact h9.2.2.1 | exact h9.2.2.2))
      · refine pv_thenX ?_
        exact hf (fun h9 => h23 (by first | exact h9.1 | exact h9.2.1 | exact h9.2.2.1 | exact h9.2.2.2))
    · refine pv_thenX ?_
      exact hf (fun h9 => h14 (by first | exact h9.1 | exact h9.2.1 | exact h9.2.2.1 | exact h9.2.2.2))
  · refine pv_thenX ?_
    exact hf (fun h9 => h5 (by first | exact h9.1 | exact h9.2.1 | exact h9.2.2.1 | exact h9.2.2.2))
set_option maxRecDepth 20000 in
theorem c_mean0 {M : fmM} {Q : fmR → fmM → Prop} {t b v x y : Int32} (hq : Q (.inl (some (.int (mnV t b v x y 0)))) M) : pvGood Tx 0 qX10_meanOf [.int t, .int b, .int v, .int x, .int y, .int 0] M Q := by
  refine pvGood_of (Nat.le_of_ble_eq_true rfl) ?_
  show pvEv Tx 0 qX10_meanOf 0 [some (.int t), some (.int b), some (.int v), some (.int x), some (.int y), some (.int 0)] [] M Q
  refine pv_iload (pc := 0) (i := 5) rfl (fm_dec dtX10_meanOf 0 rfl) ?_
  refine pv_lookup (pc := 2) 28 (by decide) rfl (fm_dec dtX10_meanOf 1 rfl) ?_
  refine pv_bipush (pc := 28) (v := 16) (by decide) (fm_dec dtX10_meanOf 2 rfl) ?_
  refine pv_iloadn (pc := 30) (n := 0) 0 rfl rfl (fm_dec dtX10_meanOf 3 rfl) ?_
  refine pv_iloadn (pc := 31) (n := 2) 2 rfl rfl (fm_dec dtX10_meanOf 4 rfl) ?_
  refine pv_imul (pc := 32) (fm_dec dtX10_meanOf 5 rfl) ?_
  refine pv_bipush (pc := 33) (v := 16) (by decide) (fm_dec dtX10_meanOf 6 rfl) ?_
  refine pv_iloadn (pc := 35) (n := 0) 0 rfl rfl (fm_dec dtX10_meanOf 7 rfl) ?_
  refine pv_isub (pc := 36) (fm_dec dtX10_meanOf 8 rfl) ?_
  refine pv_iloadn (pc := 37) (n := 3) 3 rfl rfl (fm_dec dtX10_meanOf 9 rfl) ?_
  refine pv_imul (pc := 38) (fm_dec dtX10_meanOf 10 rfl) ?_
  refine pv_isub (pc := 39) (fm_dec dtX10_meanOf 11 rfl) ?_
  refine pv_imul (pc := 40) (fm_dec dtX10_meanOf 12 rfl) ?_
  exact pv_ireturn (pc := 41) rfl (fm_dec dtX10_meanOf 13 rfl) (by have h9 := hq; unfold mnV at h9; rw [if_neg (by decide), if_pos rfl] at h9; exact h9)
set_option maxRecDepth 20000 in
theorem c_mean1 {M : fmM} {Q : fmR → fmM → Prop} {t b v x y : Int32} (hq : Q (.inl (some (.int (mnV t b v x y 1)))) M) : pvGood Tx 0 qX10_meanOf [.int t, .int b, .int v, .int x, .int y, .int 1] M Q := by
  refine pvGood_of (Nat.le_of_ble_eq_true rfl) ?_
  show pvEv Tx 0 qX10_meanOf 0 [some (.int t), some (.int b), some (.int v), some (.int x), some (.int y), some (.int 1)] [] M Q
  refine pv_iload (pc := 0) (i := 5) rfl (fm_dec dtX10_meanOf 0 rfl) ?_
  refine pv_lookup (pc := 2) 42 (by decide) rfl (fm_dec dtX10_meanOf 1 rfl) ?_
  refine pv_bipush (pc := 42) (v := 16) (by decide) (fm_dec dtX10_meanOf 14 rfl) ?_
  refine pv_iloadn (pc := 44) (n := 0) 0 rfl rfl (fm_dec dtX10_meanOf 15 rfl) ?_
  refine pv_iloadn (pc := 45) (n := 2) 2 rfl rfl (fm_dec dtX10_meanOf 16 rfl) ?_
  refine pv_imul (pc := 46) (fm_dec dtX10_meanOf 17 rfl) ?_
  refine pv_bipush (pc := 47) (v := 16) (by decide) (fm_dec dtX10_meanOf 18 rfl) ?_
  refine pv_iloadn (pc := 49) (n := 0) 0 rfl rfl (fm_dec dtX10_meanOf 19 rfl) ?_
  refine pv_isub (pc := 50) (fm_dec dtX10_meanOf 20 rfl) ?_
  refine pv_iload (pc := 51) (i := 4) rfl (fm_dec dtX10_meanOf 21 rfl) ?_
  refine pv_imul (pc := 53) (fm_dec dtX10_meanOf 22 rfl) ?_
  refine pv_isub (pc := 54) (fm_dec dtX10_meanOf 23 rfl) ?_
  refine pv_imul (pc := 55) (fm_dec dtX10_meanOf 24 rfl) ?_
  exact pv_ireturn (pc := 56) rfl (fm_dec dtX10_meanOf 25 rfl) (by have h9 := hq; unfold mnV at h9; rw [if_neg (by decide), if_neg (by decide)] at h9; exact h9)
set_option maxRecDepth 20000 in
theorem c_mean2 {M : fmM} {Q : fmR → fmM → Prop} {t b v x y : Int32} (hq : Q (.inl (some (.int (mnV t b v x y 2)))) M) : pvGood Tx 0 qX10_meanOf [.int t, .int b, .int v, .int x, .int y, .int 2] M Q := by
  refine pvGood_of (Nat.le_of_ble_eq_true rfl) ?_
  show pvEv Tx 0 qX10_meanOf 0 [some (.int t), some (.int b), some (.int v), some (.int x), some (.int y), some (.int 2)] [] M Q
  refine pv_iload (pc := 0) (i := 5) rfl (fm_dec dtX10_meanOf 0 rfl) ?_
  refine pv_lookup (pc := 2) 57 (by decide) rfl (fm_dec dtX10_meanOf 1 rfl) ?_
  refine pv_iloadn (pc := 57) (n := 0) 0 rfl rfl (fm_dec dtX10_meanOf 26 rfl) ?_
  refine pv_bipush (pc := 58) (v := 16) (by decide) (fm_dec dtX10_meanOf 27 rfl) ?_
  refine pv_iloadn (pc := 60) (n := 1) 1 rfl rfl (fm_dec dtX10_meanOf 28 rfl) ?_
  refine pv_isub (pc := 61) (fm_dec dtX10_meanOf 29 rfl) ?_
  refine pv_imul (pc := 62) (fm_dec dtX10_meanOf 30 rfl) ?_
  refine pv_iloadn (pc := 63) (n := 2) 2 rfl rfl (fm_dec dtX10_meanOf 31 rfl) ?_
  refine pv_imul (pc := 64) (fm_dec dtX10_meanOf 32 rfl) ?_
  exact pv_ireturn (pc := 65) rfl (fm_dec dtX10_meanOf 33 rfl) (by have h9 := hq; unfold mnV at h9; rw [if_pos rfl] at h9; exact h9)
theorem c_mean {M : fmM} {Q : fmR → fmM → Prop} {t b v x y w : Int32} (hw : inW w 0 2) (hq : Q (.inl (some (.int (mnV t b v x y w)))) M) : pvGood Tx 0 qX10_meanOf [.int t, .int b, .int v, .int x, .int y, .int w] M Q := by
  have e0 : (0 : Int32).toInt = 0 := by decide
  have e2 : (2 : Int32).toInt = 2 := by decide
  obtain ⟨h1, h2⟩ := hw
  rcases (show w.toInt = 0 ∨ w.toInt = 1 ∨ w.toInt = 2 by omega) with h | h | h
  · have e : w = 0 := i32_ext (h.trans (by decide))
    subst e
    exact c_mean0 hq
  · have e : w = 1 := i32_ext (h.trans (by decide))
    subst e
    exact c_mean1 hq
  · have e : w = 2 := i32_ext (h.trans (by decide))
    subst e
    exact c_mean2 hq
set_option maxRecDepth 20000 in
theorem c_xbrings {M : fmM} {Q : fmR → fmM → Prop} {t b v x y w : Int32} (ht : inW t 0 16 ∧ rgR b v x y ∧ inW w 0 2 → Q (.inl (some (.int (mnV t b v x y w)))) M) (hf : ¬ (inW t 0 16 ∧ rgR b v x y ∧ inW w 0 2) → Q (.inr fmIAE) (fmI M 0 16 (M.1 0 16 + 1))) : pvGood Tx 2 qX10_brings [.ref 0, .int t, .int b, .int v, .int x, .int y, .int w] M Q := by
  refine pvGood_of (Nat.le_of_ble_eq_true rfl) ?_
  show pvEv Tx 2 qX10_brings 0 [some (.ref 0), some (.int t), some (.int b), some (.int v), some (.int x), some (.int y), some (.int w)] [] M Q
  refine pv_aloadn (pc := 0) (n := 0) 0 rfl rfl (fm_dec dtX10_brings 0 rfl) ?_
  refine pv_iloadn (pc := 1) (n := 1) 1 rfl rfl (fm_dec dtX10_brings 1 rfl) ?_
  refine pv_iconst (pc := 2) (v := 0) (by decide) (fm_dec dtX10_brings 2 rfl) ?_
  refine pv_bipush (pc := 3) (v := 16) (by decide) (fm_dec dtX10_brings 3 rfl) ?_
  refine pv_invV3 (k := 0) (d' := 0) (pc := 5) pcv_X10_169 (by decide) rfl (Nat.le_of_ble_eq_true rfl) (by decide) (fm_dec dtX10_brings 4 rfl) ?_
  refine c_needW (fun h5a h5b => ?_) (fun h5 => ?_)
  · refine pv_then0 ?_
    refine pv_aloadn (pc := 8) (n := 0) 0 rfl rfl (fm_dec dtX10_brings 5 rfl) ?_
    refine pv_iloadn (pc := 9) (n := 2) 2 rfl rfl (fm_dec dtX10_brings 6 rfl) ?_
    refine pv_iloadn (pc := 10) (n := 3) 3 rfl rfl (fm_dec dtX10_brings 7 rfl) ?_
    refine pv_iload (pc := 11) (i := 4) rfl (fm_dec dtX10_brings 8 rfl) ?_
    refine pv_iload (pc := 13) (i := 5) rfl (fm_dec dtX10_brings 9 rfl) ?_
    refine pv_invV4 (k := 0) (d' := 1) (pc := 15) pcv_X10_308 (by decide) rfl (Nat.le_of_ble_eq_true rfl) (by decide) (fm_dec dtX10_brings 10 rfl) ?_
    refine c_needR (fun h15 => ?_) (fun h15 => ?_)
    · refine pv_then0 ?_
      refine pv_aloadn (pc := 18) (n := 0) 0 rfl rfl (fm_dec dtX10_brings 11 rfl) ?_
      refine pv_iload (pc := 19) (i := 6) rfl (fm_dec dtX10_brings 12 rfl) ?_
      refine pv_iconst (pc := 21) (v := 0) (by decide) (fm_dec dtX10_brings 13 rfl) ?_
      refine pv_iconst (pc := 22) (v := 2) (by decide) (fm_dec dtX10_brings 14 rfl) ?_
      refine pv_invV3 (k := 0) (d' := 0) (pc := 23) pcv_X10_169 (by decide) rfl (Nat.le_of_ble_eq_true rfl) (by decide) (fm_dec dtX10_brings 15 rfl) ?_
      refine c_needW (fun h23a h23b => ?_) (fun h23 => ?_)
      · refine pv_then0 ?_
        refine pv_iloadn (pc := 26) (n := 1) 1 rfl rfl (fm_dec dtX10_brings 16 rfl) ?_
        refine pv_iloadn (pc := 27) (n := 2) 2 rfl rfl (fm_dec dtX10_brings 17 rfl) ?_
        refine pv_iloadn (pc := 28) (n := 3) 3 rfl rfl (fm_dec dtX10_brings 18 rfl) ?_
        refine pv_iload (pc := 29) (i := 4) rfl (fm_dec dtX10_brings 19 rfl) ?_
        refine pv_iload (pc := 31) (i := 5) rfl (fm_dec dtX10_brings 20 rfl) ?_
        refine pv_iload (pc := 33) (i := 6) rfl (fm_dec dtX10_brings 21 rfl) ?_
        refine pv_iS6 (d' := 0) (pc := 35) pcs_X10_312 (Nat.le_of_ble_eq_true rfl) (by decide) (fm_dec dtX10_brings 22 rfl) ?_
        refine c_mean ⟨h23a, h23b⟩ ?_
        refine pv_then1 ?_
        exact pv_ireturn (pc := 38) rfl (fm_dec dtX10_brings 23 rfl) (ht ⟨⟨h5a, h5b⟩, h15, ⟨h23a, h23b⟩⟩)
      · refine pv_thenX ?_
        exact hf (fun h9 => h23 (by first | exact h9.1 | exact h9.2.1 | exact h9.2.2))
    · refine pv_thenX ?_
      exact hf (fun h9 => h15 (by first | exact h9.1 | exact h9.2.1 | exact h9.2.2))
  · refine pv_thenX ?_
    exact hf (fun h9 => h5 (by first | exact h9.1 | exact h9.2.1 | exact h9.2.2))
set_option maxRecDepth 20000 in
theorem bw_0 {Q : fmR → fmM → Prop} {M : fmM} {t b v x y mo : Int32} {v8 : Option Value} (hy : mo < mnV t b v x y 2 → Q (.inl (some (.int 2))) M) (hn : ¬ mo < mnV t b v x y 2 → Q (.inl (some (.int 0))) M) : pvEv Tx 1 qX10_bestWay 18 [some (.int t), some (.int b), some (.int v), some (.int x), some (.int y), some (.int 0), some (.int mo), some (.int 2), v8] [] M Q := by
  refine pv_iload (pc := 18) (i := 7) rfl (fm_dec dtX10_bestWay 12 rfl) ?_
  refine pv_iconst (pc := 20) (v := 2) (by decide) (fm_dec dtX10_bestWay 13 rfl) ?_
  refine pv_icmp_gt (pc := 21) 58 (by decide) (fm_dec dtX10_bestWay 14 rfl) (fun hc21 => by exfalso; revert hc21; decide) (fun _ => ?_)
  refine pv_iloadn (pc := 24) (n := 0) 0 rfl rfl (fm_dec dtX10_bestWay 15 rfl) ?_
  refine pv_iloadn (pc := 25) (n := 1) 1 rfl rfl (fm_dec dtX10_bestWay 16 rfl) ?_
  refine pv_iloadn (pc := 26) (n := 2) 2 rfl rfl (fm_dec dtX10_bestWay 17 rfl) ?_
  refine pv_iloadn (pc := 27) (n := 3) 3 rfl rfl (fm_dec dtX10_bestWay 18 rfl) ?_
  refine pv_iload (pc := 28) (i := 4) rfl (fm_dec dtX10_bestWay 19 rfl) ?_
  refine pv_iload (pc := 30) (i := 7) rfl (fm_dec dtX10_bestWay 20 rfl) ?_
  refine pv_iS6 (d' := 0) (pc := 32) pcs_X10_312 (Nat.le_of_ble_eq_true rfl) (by decide) (fm_dec dtX10_bestWay 21 rfl) ?_
  refine c_mean2 ?_
  refine pv_then1 ?_
  refine pv_istore (pc := 35) (i := 8) (by decide) rfl (fm_dec dtX10_bestWay 22 rfl) ?_
  dsimp only [List.set_cons_zero, List.set_cons_succ]
  refine pv_iload (pc := 37) (i := 8) rfl (fm_dec dtX10_bestWay 23 rfl) ?_
  refine pv_iload (pc := 39) (i := 6) rfl (fm_dec dtX10_bestWay 24 rfl) ?_
  refine pv_icmp_le (pc := 41) 52 (by decide) (fm_dec dtX10_bestWay 25 rfl) (fun hc41 => ?_) (fun hc41 => ?_)
  · refine pv_iincc (pc := 52) 7 1 (by decide) rfl (by decide) rfl (fm_dec dtX10_bestWay 30 rfl) ?_
    dsimp only [List.set_cons_zero, List.set_cons_succ]
    rw [show (2 : Int32) + 1 = 3 by decide]
    refine pv_goto (pc := 55) 18 (by decide) (fm_dec dtX10_bestWay 31 rfl) ?_
    refine pv_iload (pc := 18) (i := 7) rfl (fm_dec dtX10_bestWay 12 rfl) ?_
    refine pv_iconst (pc := 20) (v := 2) (by decide) (fm_dec dtX10_bestWay 13 rfl) ?_
    refine pv_icmp_gt (pc := 21) 58 (by decide) (fm_dec dtX10_bestWay 14 rfl) (fun _ => ?_) (fun hc21 => by exfalso; revert hc21; decide)
    refine pv_iload (pc := 58) (i := 5) rfl (fm_dec dtX10_bestWay 32 rfl) ?_
    exact pv_ireturn (pc := 60) rfl (fm_dec dtX10_bestWay 33 rfl) (hn (by rw [sc_lt]; rw [sc_le] at hc41; omega))
  · refine pv_iload (pc := 44) (i := 8) rfl (fm_dec dtX10_bestWay 26 rfl) ?_
    refine pv_istore (pc := 46) (i := 6) (by decide) rfl (fm_dec dtX10_bestWay 27 rfl) ?_
    dsimp only [List.set_cons_zero, List.set_cons_succ]
    refine pv_iload (pc := 48) (i := 7) rfl (fm_dec dtX10_bestWay 28 rfl) ?_
    refine pv_istore (pc := 50) (i := 5) (by decide) rfl (fm_dec dtX10_bestWay 29 rfl) ?_
    dsimp only [List.set_cons_zero, List.set_cons_succ]
    refine pv_iincc (pc := 52) 7 1 (by decide) rfl (by decide) rfl (fm_dec dtX10_bestWay 30 rfl) ?_
    dsimp only [List.set_cons_zero, List.set_cons_succ]
    rw [show (2 : Int32) + 1 = 3 by decide]
    refine pv_goto (pc := 55) 18 (by decide) (fm_dec dtX10_bestWay 31 rfl) ?_
    refine pv_iload (pc := 18) (i := 7) rfl (fm_dec dtX10_bestWay 12 rfl) ?_
    refine pv_iconst (pc := 20) (v := 2) (by decide) (fm_dec dtX10_bestWay 13 rfl) ?_
    refine pv_icmp_gt (pc := 21) 58 (by decide) (fm_dec dtX10_bestWay 14 rfl) (fun _ => ?_) (fun hc21 => by exfalso; revert hc21; decide)
    refine pv_iload (pc := 58) (i := 5) rfl (fm_dec dtX10_bestWay 32 rfl) ?_
    exact pv_ireturn (pc := 60) rfl (fm_dec dtX10_bestWay 33 rfl) (hy (by rw [sc_lt]; rw [sc_le] at hc41; omega))
set_option maxRecDepth 20000 in
theorem bw_1 {Q : fmR → fmM → Prop} {M : fmM} {t b v x y mo : Int32} {v8 : Option Value} (hy : mo < mnV t b v x y 2 → Q (.inl (some (.int 2))) M) (hn : ¬ mo < mnV t b v x y 2 → Q (.inl (some (.int 1))) M) : pvEv Tx 1 qX10_bestWay 18 [some (.int t), some (.int b), some (.int v), some (.int x), some (.int y), some (.int 1), some (.int mo), some (.int 2), v8] [] M Q := by
  refine pv_iload (pc := 18) (i := 7) rfl (fm_dec dtX10_bestWay 12 rfl) ?_
  refine pv_iconst (pc := 20) (v := 2) (by decide) (fm_dec dtX10_bestWay 13 rfl) ?_
  refine pv_icmp_gt (pc := 21) 58 (by decide) (fm_dec dtX10_bestWay 14 rfl) (fun hc21 => by exfalso; revert hc21; decide) (fun _ => ?_)
  refine pv_iloadn (pc := 24) (n := 0) 0 rfl rfl (fm_dec dtX10_bestWay 15 rfl) ?_
  refine pv_iloadn (pc := 25) (n := 1) 1 rfl rfl (fm_dec dtX10_bestWay 16 rfl) ?_
  refine pv_iloadn (pc := 26) (n := 2) 2 rfl rfl (fm_dec dtX10_bestWay 17 rfl) ?_
  refine pv_iloadn (pc := 27) (n := 3) 3 rfl rfl (fm_dec dtX10_bestWay 18 rfl) ?_
  refine pv_iload (pc := 28) (i := 4) rfl (fm_dec dtX10_bestWay 19 rfl) ?_
  refine pv_iload (pc := 30) (i := 7) rfl (fm_dec dtX10_bestWay 20 rfl) ?_
  refine pv_iS6 (d' := 0) (pc := 32) pcs_X10_312 (Nat.le_of_ble_eq_true rfl) (by decide) (fm_dec dtX10_bestWay 21 rfl) ?_
  refine c_mean2 ?_
  refine pv_then1 ?_
  refine pv_istore (pc := 35) (i := 8) (by decide) rfl (fm_dec dtX10_bestWay 22 rfl) ?_
  dsimp only [List.set_cons_zero, List.set_cons_succ]
  refine pv_iload (pc := 37) (i := 8) rfl (fm_dec dtX10_bestWay 23 rfl) ?_
  refine pv_iload (pc := 39) (i := 6) rfl (fm_dec dtX10_bestWay 24 rfl) ?_
  refine pv_icmp_le (pc := 41) 52 (by decide) (fm_dec dtX10_bestWay 25 rfl) (fun hc41 => ?_) (fun hc41 => ?_)
  · refine pv_iincc (pc := 52) 7 1 (by decide) rfl (by decide) rfl (fm_dec dtX10_bestWay 30 rfl) ?_
    dsimp only [List.set_cons_zero, List.set_cons_succ]
    rw [show (2 : Int32) + 1 = 3 by decide]
    refine pv_goto (pc := 55) 18 (by decide) (fm_dec dtX10_bestWay 31 rfl) ?_
    refine pv_iload (pc := 18) (i := 7) rfl (fm_dec dtX10_bestWay 12 rfl) ?_
    refine pv_iconst (pc := 20) (v := 2) (by decide) (fm_dec dtX10_bestWay 13 rfl) ?_
    refine pv_icmp_gt (pc := 21) 58 (by decide) (fm_dec dtX10_bestWay 14 rfl) (fun _ => ?_) (fun hc21 => by exfalso; revert hc21; decide)
    refine pv_iload (pc := 58) (i := 5) rfl (fm_dec dtX10_bestWay 32 rfl) ?_
    exact pv_ireturn (pc := 60) rfl (fm_dec dtX10_bestWay 33 rfl) (hn (by rw [sc_lt]; rw [sc_le] at hc41; omega))
  · refine pv_iload (pc := 44) (i := 8) rfl (fm_dec dtX10_bestWay 26 rfl) ?_
    refine pv_istore (pc := 46) (i := 6) (by decide) rfl (fm_dec dtX10_bestWay 27 rfl) ?_
    dsimp only [List.set_cons_zero, List.set_cons_succ]
    refine pv_iload (pc := 48) (i := 7) rfl (fm_dec dtX10_bestWay 28 rfl) ?_
    refine pv_istore (pc := 50) (i := 5) (by decide) rfl (fm_dec dtX10_bestWay 29 rfl) ?_
    dsimp only [List.set_cons_zero, List.set_cons_succ]
    refine pv_iincc (pc := 52) 7 1 (by decide) rfl (by decide) rfl (fm_dec dtX10_bestWay 30 rfl) ?_
    dsimp only [List.set_cons_zero, List.set_cons_succ]
    rw [show (2 : Int32) + 1 = 3 by decide]
    refine pv_goto (pc := 55) 18 (by decide) (fm_dec dtX10_bestWay 31 rfl) ?_
    refine pv_iload (pc := 18) (i := 7) rfl (fm_dec dtX10_bestWay 12 rfl) ?_
    refine pv_iconst (pc := 20) (v := 2) (by decide) (fm_dec dtX10_bestWay 13 rfl) ?_
    refine pv_icmp_gt (pc := 21) 58 (by decide) (fm_dec dtX10_bestWay 14 rfl) (fun _ => ?_) (fun hc21 => by exfalso; revert hc21; decide)
    refine pv_iload (pc := 58) (i := 5) rfl (fm_dec dtX10_bestWay 32 rfl) ?_
    exact pv_ireturn (pc := 60) rfl (fm_dec dtX10_bestWay 33 rfl) (hy (by rw [sc_lt]; rw [sc_le] at hc41; omega))
set_option maxRecDepth 20000 in
theorem c_xbest {M : fmM} {Q : fmR → fmM → Prop} {t b v x y : Int32} (hq : Q (.inl (some (.int (bwV t b v x y)))) M) : pvGood Tx 1 qX10_bestWay [.int t, .int b, .int v, .int x, .int y] M Q := by
  refine pvGood_of (Nat.le_of_ble_eq_true rfl) ?_
  show pvEv Tx 1 qX10_bestWay 0 [some (.int t), some (.int b), some (.int v), some (.int x), some (.int y), none, none, none, none] [] M Q
  refine pv_iconst (pc := 0) (v := 0) (by decide) (fm_dec dtX10_bestWay 0 rfl) ?_
  refine pv_istore (pc := 1) (i := 5) (by decide) rfl (fm_dec dtX10_bestWay 1 rfl) ?_
  dsimp only [List.set_cons_zero, List.set_cons_succ]
  refine pv_iloadn (pc := 3) (n := 0) 0 rfl rfl (fm_dec dtX10_bestWay 2 rfl) ?_
  refine pv_iloadn (pc := 4) (n := 1) 1 rfl rfl (fm_dec dtX10_bestWay 3 rfl) ?_
  refine pv_iloadn (pc := 5) (n := 2) 2 rfl rfl (fm_dec dtX10_bestWay 4 rfl) ?_
  refine pv_iloadn (pc := 6) (n := 3) 3 rfl rfl (fm_dec dtX10_bestWay 5 rfl) ?_
  refine pv_iload (pc := 7) (i := 4) rfl (fm_dec dtX10_bestWay 6 rfl) ?_
  refine pv_iconst (pc := 9) (v := 0) (by decide) (fm_dec dtX10_bestWay 7 rfl) ?_
  refine pv_iS6 (d' := 0) (pc := 10) pcs_X10_312 (Nat.le_of_ble_eq_true rfl) (by decide) (fm_dec dtX10_bestWay 8 rfl) ?_
  refine c_mean0 ?_
  refine pv_then1 ?_
  refine pv_istore (pc := 13) (i := 6) (by decide) rfl (fm_dec dtX10_bestWay 9 rfl) ?_
  dsimp only [List.set_cons_zero, List.set_cons_succ]
  refine pv_iconst (pc := 15) (v := 1) (by decide) (fm_dec dtX10_bestWay 10 rfl) ?_
  refine pv_istore (pc := 16) (i := 7) (by decide) rfl (fm_dec dtX10_bestWay 11 rfl) ?_
  dsimp only [List.set_cons_zero, List.set_cons_succ]
  refine pv_iload (pc := 18) (i := 7) rfl (fm_dec dtX10_bestWay 12 rfl) ?_
  refine pv_iconst (pc := 20) (v := 2) (by decide) (fm_dec dtX10_bestWay 13 rfl) ?_
  refine pv_icmp_gt (pc := 21) 58 (by decide) (fm_dec dtX10_bestWay 14 rfl) (fun hc21 => by exfalso; revert hc21; decide) (fun _ => ?_)
  refine pv_iloadn (pc := 24) (n := 0) 0 rfl rfl (fm_dec dtX10_bestWay 15 rfl) ?_
  refine pv_iloadn (pc := 25) (n := 1) 1 rfl rfl (fm_dec dtX10_bestWay 16 rfl) ?_
  refine pv_iloadn (pc := 26) (n := 2) 2 rfl rfl (fm_dec dtX10_bestWay 17 rfl) ?_
  refine pv_iloadn (pc := 27) (n := 3) 3 rfl rfl (fm_dec dtX10_bestWay 18 rfl) ?_
  refine pv_iload (pc := 28) (i := 4) rfl (fm_dec dtX10_bestWay 19 rfl) ?_
  refine pv_iload (pc := 30) (i := 7) rfl (fm_dec dtX10_bestWay 20 rfl) ?_
  refine pv_iS6 (d' := 0) (pc := 32) pcs_X10_312 (Nat.le_of_ble_eq_true rfl) (by decide) (fm_dec dtX10_bestWay 21 rfl) ?_
  refine c_mean1 ?_
  refine pv_then1 ?_
  refine pv_istore (pc := 35) (i := 8) (by decide) rfl (fm_dec dtX10_bestWay 22 rfl) ?_
  dsimp only [List.set_cons_zero, List.set_cons_succ]
  refine pv_iload (pc := 37) (i := 8) rfl (fm_dec dtX10_bestWay 23 rfl) ?_
  refine pv_iload (pc := 39) (i := 6) rfl (fm_dec dtX10_bestWay 24 rfl) ?_
  refine pv_icmp_le (pc := 41) 52 (by decide) (fm_dec dtX10_bestWay 25 rfl) (fun hc41 => ?_) (fun hc41 => ?_)
  · refine pv_iincc (pc := 52) 7 1 (by decide) rfl (by decide) rfl (fm_dec dtX10_bestWay 30 rfl) ?_
    dsimp only [List.set_cons_zero, List.set_cons_succ]
    rw [show (1 : Int32) + 1 = 2 by decide]
    refine pv_goto (pc := 55) 18 (by decide) (fm_dec dtX10_bestWay 31 rfl) ?_
    have e1 : b1V t b v x y = 0 := if_neg (by rw [sc_lt]; rw [sc_le] at hc41; omega)
    refine bw_0 (fun h => ?_) (fun h => ?_)
    · have h9 := hq; unfold bwV at h9; rw [e1, if_pos h] at h9; exact h9
    · have h9 := hq; unfold bwV at h9; rw [e1, if_neg h] at h9; exact h9
  · refine pv_iload (pc := 44) (i := 8) rfl (fm_dec dtX10_bestWay 26 rfl) ?_
    refine pv_istore (pc := 46) (i := 6) (by decide) rfl (fm_dec dtX10_bestWay 27 rfl) ?_
    dsimp only [List.set_cons_zero, List.set_cons_succ]
    refine pv_iload (pc := 48) (i := 7) rfl (fm_dec dtX10_bestWay 28 rfl) ?_
    refine pv_istore (pc := 50) (i := 5) (by decide) rfl (fm_dec dtX10_bestWay 29 rfl) ?_
    dsimp only [List.set_cons_zero, List.set_cons_succ]
    refine pv_iincc (pc := 52) 7 1 (by decide) rfl (by decide) rfl (fm_dec dtX10_bestWay 30 rfl) ?_
    dsimp only [List.set_cons_zero, List.set_cons_succ]
    rw [show (1 : Int32) + 1 = 2 by decide]
    refine pv_goto (pc := 55) 18 (by decide) (fm_dec dtX10_bestWay 31 rfl) ?_
    have e1 : b1V t b v x y = 1 := if_pos (by rw [sc_lt]; rw [sc_le] at hc41; omega)
    refine bw_1 (fun h => ?_) (fun h => ?_)
    · have h9 := hq; unfold bwV at h9; rw [e1, if_pos h] at h9; exact h9
    · have h9 := hq; unfold bwV at h9; rw [e1, if_neg h] at h9; exact h9
set_option maxRecDepth 20000 in
theorem c_xsays {M : fmM} {Q : fmR → fmM → Prop} {t b v x y : Int32} (ht : inW t 0 16 ∧ rgR b v x y → Q (.inl (some (.int (bwV t b v x y)))) M) (hf : ¬ (inW t 0 16 ∧ rgR b v x y) → Q (.inr fmIAE) (fmI M 0 16 (M.1 0 16 + 1))) : pvGood Tx 2 qX10_says [.ref 0, .int t, .int b, .int v, .int x, .int y] M Q := by
  refine pvGood_of (Nat.le_of_ble_eq_true rfl) ?_
  show pvEv Tx 2 qX10_says 0 [some (.ref 0), some (.int t), some (.int b), some (.int v), some (.int x), some (.int y)] [] M Q
  refine pv_aloadn (pc := 0) (n := 0) 0 rfl rfl (fm_dec dtX10_says 0 rfl) ?_
  refine pv_iloadn (pc := 1) (n := 1) 1 rfl rfl (fm_dec dtX10_says 1 rfl) ?_
  refine pv_iconst (pc := 2) (v := 0) (by decide) (fm_dec dtX10_says 2 rfl) ?_
  refine pv_bipush (pc := 3) (v := 16) (by decide) (fm_dec dtX10_says 3 rfl) ?_
  refine pv_invV3 (k := 0) (d' := 0) (pc := 5) pcv_X10_169 (by decide) rfl (Nat.le_of_ble_eq_true rfl) (by decide) (fm_dec dtX10_says 4 rfl) ?_
  refine c_needW (fun h5a h5b => ?_) (fun h5 => ?_)
  · refine pv_then0 ?_
    refine pv_aloadn (pc := 8) (n := 0) 0 rfl rfl (fm_dec dtX10_says 5 rfl) ?_
    refine pv_iloadn (pc := 9) (n := 2) 2 rfl rfl (fm_dec dtX10_says 6 rfl) ?_
    refine pv_iloadn (pc := 10) (n := 3) 3 rfl rfl (fm_dec dtX10_says 7 rfl) ?_
    refine pv_iload (pc := 11) (i := 4) rfl (fm_dec dtX10_says 8 rfl) ?_
    refine pv_iload (pc := 13) (i := 5) rfl (fm_dec dtX10_says 9 rfl) ?_
    refine pv_invV4 (k := 0) (d' := 1) (pc := 15) pcv_X10_308 (by decide) rfl (Nat.le_of_ble_eq_true rfl) (by decide) (fm_dec dtX10_says 10 rfl) ?_
    refine c_needR (fun h15 => ?_) (fun h15 => ?_)
    · refine pv_then0 ?_
      refine pv_iloadn (pc := 18) (n := 1) 1 rfl rfl (fm_dec dtX10_says 11 rfl) ?_
      refine pv_iloadn (pc := 19) (n := 2) 2 rfl rfl (fm_dec dtX10_says 12 rfl) ?_
      refine pv_iloadn (pc := 20) (n := 3) 3 rfl rfl (fm_dec dtX10_says 13 rfl) ?_
      refine pv_iload (pc := 21) (i := 4) rfl (fm_dec dtX10_says 14 rfl) ?_
      refine pv_iload (pc := 23) (i := 5) rfl (fm_dec dtX10_says 15 rfl) ?_
      refine pv_iS5 (d' := 1) (pc := 25) pcs_X10_316 (Nat.le_of_ble_eq_true rfl) (by decide) (fm_dec dtX10_says 16 rfl) ?_
      refine c_xbest ?_
      refine pv_then1 ?_
      exact pv_ireturn (pc := 28) rfl (fm_dec dtX10_says 17 rfl) (ht ⟨⟨h5a, h5b⟩, h15⟩)
    · refine pv_thenX ?_
      exact hf (fun h9 => h15 (by first | exact h9.1 | exact h9.2))
  · refine pv_thenX ?_
    exact hf (fun h9 => h5 (by first | exact h9.1 | exact h9.2))
set_option maxRecDepth 20000 in
theorem ln_x {Q : fmR → fmM → Prop} {M : fmM} {b v x y : Int32} : ∀ (n k : Nat), k + n = 17 → Q (.inl (some (.int (lnV b v x y n k)))) M → pvEv Tx 2 qX10_line 12 [some (.ref 0), some (.int b), some (.int v), some (.int x), some (.int y), some (.int (nI k))] [] M Q := by
  intro n
  induction n with
  | zero =>
    intro k hk hq
    refine pv_iload (pc := 12) (i := 5) rfl (fm_dec dtX10_line 8 rfl) ?_
    refine pv_bipush (pc := 14) (v := 16) (by decide) (fm_dec dtX10_line 9 rfl) ?_
    refine pv_icmp_gt (pc := 16) 41 (by decide) (fm_dec dtX10_line 10 rfl) (fun _ => ?_) (fun hc16 => by exfalso; apply hc16; rw [sc_lt]; have h8 : (16 : Int32).toInt = 16 := (by decide); have h7 : (nI k).toInt = (k : Int) := nI_toInt (by omega); omega)
    refine pv_iconst (pc := 41) (v := (-1)) (by decide) (fm_dec dtX10_line 22 rfl) ?_
    exact pv_ireturn (pc := 42) rfl (fm_dec dtX10_line 23 rfl) (hq : _)
  | succ n ih =>
    intro k hk hq
    refine pv_iload (pc := 12) (i := 5) rfl (fm_dec dtX10_line 8 rfl) ?_
    refine pv_bipush (pc := 14) (v := 16) (by decide) (fm_dec dtX10_line 9 rfl) ?_
    refine pv_icmp_gt (pc := 16) 41 (by decide) (fm_dec dtX10_line 10 rfl) (fun hc16 => by exfalso; rw [sc_lt] at hc16; have h8 : (16 : Int32).toInt = 16 := (by decide); have h7 : (nI k).toInt = (k : Int) := nI_toInt (by omega); omega) (fun _ => ?_)
    refine pv_iload (pc := 19) (i := 5) rfl (fm_dec dtX10_line 11 rfl) ?_
    refine pv_iloadn (pc := 21) (n := 1) 1 rfl rfl (fm_dec dtX10_line 12 rfl) ?_
    refine pv_iloadn (pc := 22) (n := 2) 2 rfl rfl (fm_dec dtX10_line 13 rfl) ?_
    refine pv_iloadn (pc := 23) (n := 3) 3 rfl rfl (fm_dec dtX10_line 14 rfl) ?_
    refine pv_iload (pc := 24) (i := 4) rfl (fm_dec dtX10_line 15 rfl) ?_
    refine pv_iS5 (d' := 1) (pc := 26) pcs_X10_316 (Nat.le_of_ble_eq_true rfl) (by decide) (fm_dec dtX10_line 16 rfl) ?_
    refine c_xbest ?_
    refine pv_then1 ?_
    refine pv_if_ne (pc := 29) 35 (by decide) (fm_dec dtX10_line 17 rfl) (fun hc29 => ?_) (fun hc29 => ?_)
    · refine pv_iincc (pc := 35) 5 1 (by decide) rfl (by decide) rfl (fm_dec dtX10_line 20 rfl) ?_
      dsimp only [List.set_cons_zero, List.set_cons_succ]
      refine pv_goto (pc := 38) 12 (by decide) (fm_dec dtX10_line 21 rfl) ?_
      rw [nI_succ1]
      refine ih (k + 1) (by omega) ?_
      have h9 := hq; simp only [lnV] at h9; rw [if_neg hc29] at h9; exact h9
    · refine pv_iload (pc := 32) (i := 5) rfl (fm_dec dtX10_line 18 rfl) ?_
      exact pv_ireturn (pc := 34) rfl (fm_dec dtX10_line 19 rfl) (by have h9 := hq; simp only [lnV] at h9; rw [if_pos hc29] at h9; exact h9)
set_option maxRecDepth 20000 in
theorem c_xline {M : fmM} {Q : fmR → fmM → Prop} {b v x y : Int32} (ht : rgR b v x y → Q (.inl (some (.int (lnV b v x y 17 0)))) M) (hf : ¬ rgR b v x y → Q (.inr fmIAE) (fmI M 0 16 (M.1 0 16 + 1))) : pvGood Tx 2 qX10_line [.ref 0, .int b, .int v, .int x, .int y] M Q := by
  refine pvGood_of (Nat.le_of_ble_eq_true rfl) ?_
  show pvEv Tx 2 qX10_line 0 [some (.ref 0), some (.int b), some (.int v), some (.int x), some (.int y), none] [] M Q
  refine pv_aloadn (pc := 0) (n := 0) 0 rfl rfl (fm_dec dtX10_line 0 rfl) ?_
  refine pv_iloadn (pc := 1) (n := 1) 1 rfl rfl (fm_dec dtX10_line 1 rfl) ?_
  refine pv_iloadn (pc := 2) (n := 2) 2 rfl rfl (fm_dec dtX10_line 2 rfl) ?_
  refine pv_iloadn (pc := 3) (n := 3) 3 rfl rfl (fm_dec dtX10_line 3 rfl) ?_
  refine pv_iload (pc := 4) (i := 4) rfl (fm_dec dtX10_line 4 rfl) ?_
  refine pv_invV4 (k := 0) (d' := 1) (pc := 6) pcv_X10_308 (by decide) rfl (Nat.le_of_ble_eq_true rfl) (by decide) (fm_dec dtX10_line 5 rfl) ?_
  refine c_needR (fun h6 => ?_) (fun h6 => ?_)
  · refine pv_then0 ?_
    refine pv_iconst (pc := 9) (v := 0) (by decide) (fm_dec dtX10_line 6 rfl) ?_
    refine pv_istore (pc := 10) (i := 5) (by decide) rfl (fm_dec dtX10_line 7 rfl) ?_
    dsimp only [List.set_cons_zero, List.set_cons_succ]
    exact ln_x 17 0 (by decide) (ht h6)
  · refine pv_thenX ?_
    exact hf h6
set_option maxRecDepth 20000 in
theorem c_isRum {M : fmM} {Q : fmR → fmM → Prop} {b v x y : Int32} (ht : rgR b v x y → Q (.inl (some (.int 1))) M) (hf : ¬ rgR b v x y → Q (.inl (some (.int 0))) M) : pvGood Tm 1 qX11_isRumour [.int b, .int v, .int x, .int y] M Q := by
  refine pvGood_of (Nat.le_of_ble_eq_true rfl) ?_
  show pvEv Tm 1 qX11_isRumour 0 [some (.int b), some (.int v), some (.int x), some (.int y)] [] M Q
  refine pv_iloadn (pc := 0) (n := 0) 0 rfl rfl (fm_dec dtX11_isRumour 0 rfl) ?_
  refine pv_iconst (pc := 1) (v := 0) (by decide) (fm_dec dtX11_isRumour 1 rfl) ?_
  refine pv_bipush (pc := 2) (v := 16) (by decide) (fm_dec dtX11_isRumour 2 rfl) ?_
  refine pv_iS3 (d' := 0) (pc := 4) pcs_X11_135 (Nat.le_of_ble_eq_true rfl) (by decide) (fm_dec dtX11_isRumour 3 rfl) ?_
  refine c_in (fun h4a h4b => ?_) (fun h4 => ?_)
  · refine pv_then1 ?_
    refine pv_if_eq (pc := 7) 47 (by decide) (fm_dec dtX11_isRumour 4 rfl) (fun hc7 => by exfalso; revert hc7; decide) (fun _ => ?_)
    refine pv_iloadn (pc := 10) (n := 1) 1 rfl rfl (fm_dec dtX11_isRumour 5 rfl) ?_
    refine pv_iconst (pc := 11) (v := 0) (by decide) (fm_dec dtX11_isRumour 6 rfl) ?_
    refine pv_sipush (pc := 12) (v := 999) (by decide) (fm_dec dtX11_isRumour 7 rfl) ?_
    refine pv_iS3 (d' := 0) (pc := 15) pcs_X11_135 (Nat.le_of_ble_eq_true rfl) (by decide) (fm_dec dtX11_isRumour 8 rfl) ?_
    refine c_in (fun h15a h15b => ?_) (fun h15 => ?_)
    · refine pv_then1 ?_
      refine pv_if_eq (pc := 18) 47 (by decide) (fm_dec dtX11_isRumour 9 rfl) (fun hc18 => by exfalso; revert hc18; decide) (fun _ => ?_)
      refine pv_iloadn (pc := 21) (n := 2) 2 rfl rfl (fm_dec dtX11_isRumour 10 rfl) ?_
      refine pv_iconst (pc := 22) (v := 0) (by decide) (fm_dec dtX11_isRumour 11 rfl) ?_
      refine pv_sipush (pc := 23) (v := 999) (by decide) (fm_dec dtX11_isRumour 12 rfl) ?_
      refine pv_iS3 (d' := 0) (pc := 26) pcs_X11_135 (Nat.le_of_ble_eq_true rfl) (by decide) (fm_dec dtX11_isRumour 13 rfl) ?_
      refine c_in (fun h26a h26b => ?_) (fun h26 => ?_)
      · refine pv_then1 ?_
        refine pv_if_eq (pc := 29) 47 (by decide) (fm_dec dtX11_isRumour 14 rfl) (fun hc29 => by exfalso; revert hc29; decide) (fun _ => ?_)
        refine pv_iloadn (pc := 32) (n := 3) 3 rfl rfl (fm_dec dtX11_isRumour 15 rfl) ?_
        refine pv_iconst (pc := 33) (v := 0) (by decide) (fm_dec dtX11_isRumour 16 rfl) ?_
        refine pv_sipush (pc := 34) (v := 999) (by decide) (fm_dec dtX11_isRumour 17 rfl) ?_
        refine pv_iS3 (d' := 0) (pc := 37) pcs_X11_135 (Nat.le_of_ble_eq_true rfl) (by decide) (fm_dec dtX11_isRumour 18 rfl) ?_
        refine c_in (fun h37a h37b => ?_) (fun h37 => ?_)
        · refine pv_then1 ?_
          refine pv_if_eq (pc := 40) 47 (by decide) (fm_dec dtX11_isRumour 19 rfl) (fun hc40 => by exfalso; revert hc40; decide) (fun _ => ?_)
          refine pv_iconst (pc := 43) (v := 1) (by decide) (fm_dec dtX11_isRumour 20 rfl) ?_
          refine pv_goto (pc := 44) 48 (by decide) (fm_dec dtX11_isRumour 21 rfl) ?_
          exact pv_zreturn (pc := 48) rfl (by first | exact Or.inr rfl | exact Or.inl rfl) (fm_dec dtX11_isRumour 23 rfl) (by first | exact ht ⟨⟨h4a, h4b⟩, ⟨h15a, h15b⟩, ⟨h26a, h26b⟩, ⟨h37a, h37b⟩⟩ | exact hf (fun h9 => h37 h9.2.2.2) | exact hf (fun h9 => h26 h9.2.2.1) | exact hf (fun h9 => h15 h9.2.1) | exact hf (fun h9 => h4 h9.1))
        · refine pv_then1 ?_
          refine pv_if_eq (pc := 40) 47 (by decide) (fm_dec dtX11_isRumour 19 rfl) (fun _ => ?_) (fun hc40 => by exfalso; revert hc40; decide)
          refine pv_iconst (pc := 47) (v := 0) (by decide) (fm_dec dtX11_isRumour 22 rfl) ?_
          exact pv_zreturn (pc := 48) rfl (by first | exact Or.inr rfl | exact Or.inl rfl) (fm_dec dtX11_isRumour 23 rfl) (by first | exact ht ⟨⟨h4a, h4b⟩, ⟨h15a, h15b⟩, ⟨h26a, h26b⟩, ⟨h37a, h37b⟩⟩ | exact hf (fun h9 => h37 h9.2.2.2) | exact hf (fun h9 => h26 h9.2.2.1) | exact hf (fun h9 => h15 h9.2.1) | exact hf (fun h9 => h4 h9.1))
      · refine pv_then1 ?_
        refine pv_if_eq (pc := 29) 47 (by decide) (fm_dec dtX11_isRumour 14 rfl) (fun _ => ?_) (fun hc29 => by exfalso; revert hc29; decide)
        refine pv_iconst (pc := 47) (v := 0) (by decide) (fm_dec dtX11_isRumour 22 rfl) ?_
        exact pv_zreturn (pc := 48) rfl (by first | exact Or.inr rfl | exact Or.inl rfl) (fm_dec dtX11_isRumour 23 rfl) (by first | exact ht ⟨⟨h4a, h4b⟩, ⟨h15a, h15b⟩, ⟨h26a, h26b⟩, ⟨h37a, h37b⟩⟩ | exact hf (fun h9 => h37 h9.2.2.2) | exact hf (fun h9 => h26 h9.2.2.1) | exact hf (fun h9 => h15 h9.2.1) | exact hf (fun h9 => h4 h9.1))
    · refine pv_then1 ?_
      refine pv_if_eq (pc := 18) 47 (by decide) (fm_dec dtX11_isRumour 9 rfl) (fun _ => ?_) (fun hc18 => by exfalso; revert hc18; decide)
      refine pv_iconst (pc := 47) (v := 0) (by decide) (fm_dec dtX11_isRumour 22 rfl) ?_
      exact pv_zreturn (pc := 48) rfl (by first | exact Or.inr rfl | exact Or.inl rfl) (fm_dec dtX11_isRumour 23 rfl) (by first | exact ht ⟨⟨h4a, h4b⟩, ⟨h15a, h15b⟩, ⟨h26a, h26b⟩, ⟨h37a, h37b⟩⟩ | exact hf (fun h9 => h37 h9.2.2.2) | exact hf (fun h9 => h26 h9.2.2.1) | exact hf (fun h9 => h15 h9.2.1) | exact hf (fun h9 => h4 h9.1))
  · refine pv_then1 ?_
    refine pv_if_eq (pc := 7) 47 (by decide) (fm_dec dtX11_isRumour 4 rfl) (fun _ => ?_) (fun hc7 => by exfalso; revert hc7; decide)
    refine pv_iconst (pc := 47) (v := 0) (by decide) (fm_dec dtX11_isRumour 22 rfl) ?_
    exact pv_zreturn (pc := 48) rfl (by first | exact Or.inr rfl | exact Or.inl rfl) (fm_dec dtX11_isRumour 23 rfl) (by first | exact ht ⟨⟨h4a, h4b⟩, ⟨h15a, h15b⟩, ⟨h26a, h26b⟩, ⟨h37a, h37b⟩⟩ | exact hf (fun h9 => h37 h9.2.2.2) | exact hf (fun h9 => h26 h9.2.2.1) | exact hf (fun h9 => h15 h9.2.1) | exact hf (fun h9 => h4 h9.1))
set_option maxRecDepth 20000 in
theorem c_bringsBy {M : fmM} {Q : fmR → fmM → Prop} {t b v x y w : Int32} (hq : Q (.inl (some (.int (mnV t b v x y w)))) M) : pvGood Tm 0 qX11_bringsBy [.int t, .int b, .int v, .int x, .int y, .int w] M Q := by
  refine pvGood_of (Nat.le_of_ble_eq_true rfl) ?_
  show pvEv Tm 0 qX11_bringsBy 0 [some (.int t), some (.int b), some (.int v), some (.int x), some (.int y), some (.int w)] [] M Q
  refine pv_iload (pc := 0) (i := 5) rfl (fm_dec dtX11_bringsBy 0 rfl) ?_
  refine pv_iconst (pc := 2) (v := 2) (by decide) (fm_dec dtX11_bringsBy 1 rfl) ?_
  refine pv_icmp_ne (pc := 3) 17 (by decide) (fm_dec dtX11_bringsBy 2 rfl) (fun hc3 => ?_) (fun hc3 => ?_)
  · refine pv_bipush (pc := 17) (v := 16) (by decide) (fm_dec dtX11_bringsBy 11 rfl) ?_
    refine pv_iloadn (pc := 19) (n := 0) 0 rfl rfl (fm_dec dtX11_bringsBy 12 rfl) ?_
    refine pv_iloadn (pc := 20) (n := 2) 2 rfl rfl (fm_dec dtX11_bringsBy 13 rfl) ?_
    refine pv_imul (pc := 21) (fm_dec dtX11_bringsBy 14 rfl) ?_
    refine pv_bipush (pc := 22) (v := 16) (by decide) (fm_dec dtX11_bringsBy 15 rfl) ?_
    refine pv_iloadn (pc := 24) (n := 0) 0 rfl rfl (fm_dec dtX11_bringsBy 16 rfl) ?_
    refine pv_isub (pc := 25) (fm_dec dtX11_bringsBy 17 rfl) ?_
    refine pv_iload (pc := 26) (i := 5) rfl (fm_dec dtX11_bringsBy 18 rfl) ?_
    refine pv_if_ne (pc := 28) 35 (by decide) (fm_dec dtX11_bringsBy 19 rfl) (fun hc28 => ?_) (fun hc28 => ?_)
    · refine pv_iload (pc := 35) (i := 4) rfl (fm_dec dtX11_bringsBy 22 rfl) ?_
      refine pv_imul (pc := 37) (fm_dec dtX11_bringsBy 23 rfl) ?_
      refine pv_isub (pc := 38) (fm_dec dtX11_bringsBy 24 rfl) ?_
      refine pv_imul (pc := 39) (fm_dec dtX11_bringsBy 25 rfl) ?_
      exact pv_ireturn (pc := 40) rfl (fm_dec dtX11_bringsBy 26 rfl) (by have h9 := hq; unfold mnV at h9; rw [if_neg hc3, if_neg hc28] at h9; exact h9)
    · refine pv_iloadn (pc := 31) (n := 3) 3 rfl rfl (fm_dec dtX11_bringsBy 20 rfl) ?_
      refine pv_goto (pc := 32) 37 (by decide) (fm_dec dtX11_bringsBy 21 rfl) ?_
      refine pv_imul (pc := 37) (fm_dec dtX11_bringsBy 23 rfl) ?_
      refine pv_isub (pc := 38) (fm_dec dtX11_bringsBy 24 rfl) ?_
      refine pv_imul (pc := 39) (fm_dec dtX11_bringsBy 25 rfl) ?_
      exact pv_ireturn (pc := 40) rfl (fm_dec dtX11_bringsBy 26 rfl) (by have h9 := hq; unfold mnV at h9; rw [if_neg hc3, if_pos hc28] at h9; exact h9)
  · refine pv_iloadn (pc := 6) (n := 0) 0 rfl rfl (fm_dec dtX11_bringsBy 3 rfl) ?_
    refine pv_bipush (pc := 7) (v := 16) (by decide) (fm_dec dtX11_bringsBy 4 rfl) ?_
    refine pv_iloadn (pc := 9) (n := 1) 1 rfl rfl (fm_dec dtX11_bringsBy 5 rfl) ?_
    refine pv_isub (pc := 10) (fm_dec dtX11_bringsBy 6 rfl) ?_
    refine pv_imul (pc := 11) (fm_dec dtX11_bringsBy 7 rfl) ?_
    refine pv_iloadn (pc := 12) (n := 2) 2 rfl rfl (fm_dec dtX11_bringsBy 8 rfl) ?_
    refine pv_imul (pc := 13) (fm_dec dtX11_bringsBy 9 rfl) ?_
    refine pv_goto (pc := 14) 40 (by decide) (fm_dec dtX11_bringsBy 10 rfl) ?_
    exact pv_ireturn (pc := 40) rfl (fm_dec dtX11_bringsBy 26 rfl) (by have h9 := hq; unfold mnV at h9; rw [if_pos hc3] at h9; exact h9)
set_option maxRecDepth 20000 in
theorem c_mbrings {M : fmM} {Q : fmR → fmM → Prop} {t b v x y w : Int32} (ht : inW t 0 16 ∧ rgR b v x y ∧ inW w 0 2 → Q (.inl (some (.int (mnV t b v x y w)))) (fmI M 0 0 0)) (hf : ¬ (inW t 0 16 ∧ rgR b v x y ∧ inW w 0 2) → ∀ M' : fmM, M'.1 0 0 = 1 → Q (.inl (some (.int 0))) M') : pvGood Tm 2 qX11_brings [.ref 0, .int t, .int b, .int v, .int x, .int y, .int w] M Q := by
  refine pvGood_of (Nat.le_of_ble_eq_true rfl) ?_
  show pvEv Tm 2 qX11_brings 0 [some (.ref 0), some (.int t), some (.int b), some (.int v), some (.int x), some (.int y), some (.int w)] [] M Q
  refine pv_aloadn (pc := 0) (n := 0) 0 rfl rfl (fm_dec dtX11_brings 0 rfl) ?_
  refine pv_iconst (pc := 1) (v := 0) (by decide) (fm_dec dtX11_brings 1 rfl) ?_
  refine pv_putI (k := 0) (j := 0) (ci := 11) (pc := 2) pfl_X11_101 (by decide) rfl (by decide) (fm_dec dtX11_brings 2 rfl) ?_
  refine pv_aloadn (pc := 5) (n := 0) 0 rfl rfl (fm_dec dtX11_brings 3 rfl) ?_
  refine pv_iloadn (pc := 6) (n := 1) 1 rfl rfl (fm_dec dtX11_brings 4 rfl) ?_
  refine pv_iconst (pc := 7) (v := 0) (by decide) (fm_dec dtX11_brings 5 rfl) ?_
  refine pv_bipush (pc := 8) (v := 16) (by decide) (fm_dec dtX11_brings 6 rfl) ?_
  refine pv_iS3 (d' := 0) (pc := 10) pcs_X11_135 (Nat.le_of_ble_eq_true rfl) (by decide) (fm_dec dtX11_brings 7 rfl) ?_
  refine c_in (fun h10a h10b => ?_) (fun h10 => ?_)
  · refine pv_then1 ?_
    refine pv_if_eq (pc := 13) 38 (by decide) (fm_dec dtX11_brings 8 rfl) (fun hc13 => by exfalso; revert hc13; decide) (fun _ => ?_)
    refine pv_iloadn (pc := 16) (n := 2) 2 rfl rfl (fm_dec dtX11_brings 9 rfl) ?_
    refine pv_iloadn (pc := 17) (n := 3) 3 rfl rfl (fm_dec dtX11_brings 10 rfl) ?_
    refine pv_iload (pc := 18) (i := 4) rfl (fm_dec dtX11_brings 11 rfl) ?_
    refine pv_iload (pc := 20) (i := 5) rfl (fm_dec dtX11_brings 12 rfl) ?_
    refine pv_iS4 (d' := 1) (pc := 22) pcs_X11_389 (Nat.le_of_ble_eq_true rfl) (by decide) (fm_dec dtX11_brings 13 rfl) ?_
    refine c_isRum (fun h22 => ?_) (fun h22 => ?_)
    · refine pv_then1 ?_
      refine pv_if_eq (pc := 25) 38 (by decide) (fm_dec dtX11_brings 14 rfl) (fun hc25 => by exfalso; revert hc25; decide) (fun _ => ?_)
      refine pv_iload (pc := 28) (i := 6) rfl (fm_dec dtX11_brings 15 rfl) ?_
      refine pv_iconst (pc := 30) (v := 0) (by decide) (fm_dec dtX11_brings 16 rfl) ?_
      refine pv_iconst (pc := 31) (v := 2) (by decide) (fm_dec dtX11_brings 17 rfl) ?_
      refine pv_iS3 (d' := 0) (pc := 32) pcs_X11_135 (Nat.le_of_ble_eq_true rfl) (by decide) (fm_dec dtX11_brings 18 rfl) ?_
      refine c_in (fun h32a h32b => ?_) (fun h32 => ?_)
      · refine pv_then1 ?_
        refine pv_if_ne (pc := 35) 42 (by decide) (fm_dec dtX11_brings 19 rfl) (fun _ => ?_) (fun hc35 => by exfalso; revert hc35; decide)
        refine pv_iconst (pc := 42) (v := 0) (by decide) (fm_dec dtX11_brings 22 rfl) ?_
        refine pv_iconst (pc := 43) (v := 1) (by decide) (fm_dec dtX11_brings 23 rfl) ?_
        refine pv_iconst (pc := 44) (v := 1) (by decide) (fm_dec dtX11_brings 24 rfl) ?_
        refine pv_invV3 (k := 0) (d' := 0) (pc := 45) pcv_X11_177 (by decide) rfl (Nat.le_of_ble_eq_true rfl) (by decide) (fm_dec dtX11_brings 25 rfl) ?_
        refine c_badF1 rfl ?_
        refine pv_then1 ?_
        refine pv_if_eq (pc := 48) 53 (by decide) (fm_dec dtX11_brings 26 rfl) (fun _ => ?_) (fun hc48 => by exfalso; revert hc48; decide)
        refine pv_iloadn (pc := 53) (n := 1) 1 rfl rfl (fm_dec dtX11_brings 29 rfl) ?_
        refine pv_iloadn (pc := 54) (n := 2) 2 rfl rfl (fm_dec dtX11_brings 30 rfl) ?_
        refine pv_iloadn (pc := 55) (n := 3) 3 rfl rfl (fm_dec dtX11_brings 31 rfl) ?_
        refine pv_iload (pc := 56) (i := 4) rfl (fm_dec dtX11_brings 32 rfl) ?_
        refine pv_iload (pc := 58) (i := 5) rfl (fm_dec dtX11_brings 33 rfl) ?_
        refine pv_iload (pc := 60) (i := 6) rfl (fm_dec dtX11_brings 34 rfl) ?_
        refine pv_iS6 (d' := 0) (pc := 62) pcs_X11_393 (Nat.le_of_ble_eq_true rfl) (by decide) (fm_dec dtX11_brings 35 rfl) ?_
        refine c_bringsBy ?_
        refine pv_then1 ?_
        exact pv_ireturn (pc := 65) rfl (fm_dec dtX11_brings 36 rfl) (ht ⟨⟨h10a, h10b⟩, h22, ⟨h32a, h32b⟩⟩)
      · refine pv_then1 ?_
        refine pv_if_ne (pc := 35) 42 (by decide) (fm_dec dtX11_brings 19 rfl) (fun hc35 => by exfalso; revert hc35; decide) (fun _ => ?_)
        refine pv_iconst (pc := 38) (v := 1) (by decide) (fm_dec dtX11_brings 20 rfl) ?_
        refine pv_goto (pc := 39) 43 (by decide) (fm_dec dtX11_brings 21 rfl) ?_
        refine pv_iconst (pc := 43) (v := 1) (by decide) (fm_dec dtX11_brings 23 rfl) ?_
        refine pv_iconst (pc := 44) (v := 1) (by decide) (fm_dec dtX11_brings 24 rfl) ?_
        refine pv_invV3 (k := 0) (d' := 0) (pc := 45) pcv_X11_177 (by decide) rfl (Nat.le_of_ble_eq_true rfl) (by decide) (fm_dec dtX11_brings 25 rfl) ?_
        refine c_badT1 rfl (by decide) ?_
        refine pv_then1 ?_
        refine pv_if_eq (pc := 48) 53 (by decide) (fm_dec dtX11_brings 26 rfl) (fun hc48 => by exfalso; revert hc48; decide) (fun _ => ?_)
        refine pv_iconst (pc := 51) (v := 0) (by decide) (fm_dec dtX11_brings 27 rfl) ?_
        exact pv_ireturn (pc := 52) rfl (fm_dec dtX11_brings 28 rfl) (hf (by intro h9; first | exact h32 h9.2.2 | exact h22 h9.2.1 | exact h10 h9.1) _ rfl)
    · refine pv_then1 ?_
      refine pv_if_eq (pc := 25) 38 (by decide) (fm_dec dtX11_brings 14 rfl) (fun _ => ?_) (fun hc25 => by exfalso; revert hc25; decide)
      refine pv_iconst (pc := 38) (v := 1) (by decide) (fm_dec dtX11_brings 20 rfl) ?_
      refine pv_goto (pc := 39) 43 (by decide) (fm_dec dtX11_brings 21 rfl) ?_
      refine pv_iconst (pc := 43) (v := 1) (by decide) (fm_dec dtX11_brings 23 rfl) ?_
      refine pv_iconst (pc := 44) (v := 1) (by decide) (fm_dec dtX11_brings 24 rfl) ?_
      refine pv_invV3 (k := 0) (d' := 0) (pc := 45) pcv_X11_177 (by decide) rfl (Nat.le_of_ble_eq_true rfl) (by decide) (fm_dec dtX11_brings 25 rfl) ?_
      refine c_badT1 rfl (by decide) ?_
      refine pv_then1 ?_
      refine pv_if_eq (pc := 48) 53 (by decide) (fm_dec dtX11_brings 26 rfl) (fun hc48 => by exfalso; revert hc48; decide) (fun _ => ?_)
      refine pv_iconst (pc := 51) (v := 0) (by decide) (fm_dec dtX11_brings 27 rfl) ?_
      exact pv_ireturn (pc := 52) rfl (fm_dec dtX11_brings 28 rfl) (hf (by intro h9; first | exact h32 h9.2.2 | exact h22 h9.2.1 | exact h10 h9.1) _ rfl)
  · refine pv_then1 ?_
    refine pv_if_eq (pc := 13) 38 (by decide) (fm_dec dtX11_brings 8 rfl) (fun _ => ?_) (fun hc13 => by exfalso; revert hc13; decide)
    refine pv_iconst (pc := 38) (v := 1) (by decide) (fm_dec dtX11_brings 20 rfl) ?_
    refine pv_goto (pc := 39) 43 (by decide) (fm_dec dtX11_brings 21 rfl) ?_
    refine pv_iconst (pc := 43) (v := 1) (by decide) (fm_dec dtX11_brings 23 rfl) ?_
    refine pv_iconst (pc := 44) (v := 1) (by decide) (fm_dec dtX11_brings 24 rfl) ?_
    refine pv_invV3 (k := 0) (d' := 0) (pc := 45) pcv_X11_177 (by decide) rfl (Nat.le_of_ble_eq_true rfl) (by decide) (fm_dec dtX11_brings 25 rfl) ?_
    refine c_badT1 rfl (by decide) ?_
    refine pv_then1 ?_
    refine pv_if_eq (pc := 48) 53 (by decide) (fm_dec dtX11_brings 26 rfl) (fun hc48 => by exfalso; revert hc48; decide) (fun _ => ?_)
    refine pv_iconst (pc := 51) (v := 0) (by decide) (fm_dec dtX11_brings 27 rfl) ?_
    exact pv_ireturn (pc := 52) rfl (fm_dec dtX11_brings 28 rfl) (hf (by intro h9; first | exact h32 h9.2.2 | exact h22 h9.2.1 | exact h10 h9.1) _ rfl)
set_option maxRecDepth 20000 in
theorem sb_0 {Q : fmR → fmM → Prop} {M : fmM} {t b v x y : Int32} (hy : mnV t b v x y 0 < mnV t b v x y 2 → Q (.inl (some (.int 2))) M) (hn : ¬ mnV t b v x y 0 < mnV t b v x y 2 → Q (.inl (some (.int 0))) M) : pvEv Tm 1 qX11_saysBy 6 [some (.int t), some (.int b), some (.int v), some (.int x), some (.int y), some (.int 0), some (.int 2)] [] M Q := by
  refine pv_iload (pc := 6) (i := 6) rfl (fm_dec dtX11_saysBy 4 rfl) ?_
  refine pv_iconst (pc := 8) (v := 3) (by decide) (fm_dec dtX11_saysBy 5 rfl) ?_
  refine pv_icmp_ge (pc := 9) 52 (by decide) (fm_dec dtX11_saysBy 6 rfl) (fun hc9 => by exfalso; revert hc9; decide) (fun _ => ?_)
  refine pv_iloadn (pc := 12) (n := 0) 0 rfl rfl (fm_dec dtX11_saysBy 7 rfl) ?_
  refine pv_iloadn (pc := 13) (n := 1) 1 rfl rfl (fm_dec dtX11_saysBy 8 rfl) ?_
  refine pv_iloadn (pc := 14) (n := 2) 2 rfl rfl (fm_dec dtX11_saysBy 9 rfl) ?_
  refine pv_iloadn (pc := 15) (n := 3) 3 rfl rfl (fm_dec dtX11_saysBy 10 rfl) ?_
  refine pv_iload (pc := 16) (i := 4) rfl (fm_dec dtX11_saysBy 11 rfl) ?_
  refine pv_iload (pc := 18) (i := 6) rfl (fm_dec dtX11_saysBy 12 rfl) ?_
  refine pv_iS6 (d' := 0) (pc := 20) pcs_X11_393 (Nat.le_of_ble_eq_true rfl) (by decide) (fm_dec dtX11_saysBy 13 rfl) ?_
  refine c_bringsBy ?_
  refine pv_then1 ?_
  refine pv_iloadn (pc := 23) (n := 0) 0 rfl rfl (fm_dec dtX11_saysBy 14 rfl) ?_
  refine pv_iloadn (pc := 24) (n := 1) 1 rfl rfl (fm_dec dtX11_saysBy 15 rfl) ?_
  refine pv_iloadn (pc := 25) (n := 2) 2 rfl rfl (fm_dec dtX11_saysBy 16 rfl) ?_
  refine pv_iloadn (pc := 26) (n := 3) 3 rfl rfl (fm_dec dtX11_saysBy 17 rfl) ?_
  refine pv_iload (pc := 27) (i := 4) rfl (fm_dec dtX11_saysBy 18 rfl) ?_
  refine pv_iload (pc := 29) (i := 5) rfl (fm_dec dtX11_saysBy 19 rfl) ?_
  refine pv_iS6 (d' := 0) (pc := 31) pcs_X11_393 (Nat.le_of_ble_eq_true rfl) (by decide) (fm_dec dtX11_saysBy 20 rfl) ?_
  refine c_bringsBy ?_
  refine pv_then1 ?_
  refine pv_icmp_le (pc := 34) 42 (by decide) (fm_dec dtX11_saysBy 21 rfl) (fun hc34 => ?_) (fun hc34 => ?_)
  · refine pv_iload (pc := 42) (i := 5) rfl (fm_dec dtX11_saysBy 24 rfl) ?_
    refine pv_istore (pc := 44) (i := 5) (by decide) rfl (fm_dec dtX11_saysBy 25 rfl) ?_
    dsimp only [List.set_cons_zero, List.set_cons_succ]
    refine pv_iincc (pc := 46) 6 1 (by decide) rfl (by decide) rfl (fm_dec dtX11_saysBy 26 rfl) ?_
    dsimp only [List.set_cons_zero, List.set_cons_succ]
    rw [show (2 : Int32) + 1 = 3 by decide]
    refine pv_goto (pc := 49) 6 (by decide) (fm_dec dtX11_saysBy 27 rfl) ?_
    refine pv_iload (pc := 6) (i := 6) rfl (fm_dec dtX11_saysBy 4 rfl) ?_
    refine pv_iconst (pc := 8) (v := 3) (by decide) (fm_dec dtX11_saysBy 5 rfl) ?_
    refine pv_icmp_ge (pc := 9) 52 (by decide) (fm_dec dtX11_saysBy 6 rfl) (fun _ => ?_) (fun hc9 => by exfalso; revert hc9; decide)
    refine pv_iload (pc := 52) (i := 5) rfl (fm_dec dtX11_saysBy 28 rfl) ?_
    exact pv_ireturn (pc := 54) rfl (fm_dec dtX11_saysBy 29 rfl) (hn (by rw [sc_lt]; rw [sc_le] at hc34; omega))
  · refine pv_iload (pc := 37) (i := 6) rfl (fm_dec dtX11_saysBy 22 rfl) ?_
    refine pv_goto (pc := 39) 44 (by decide) (fm_dec dtX11_saysBy 23 rfl) ?_
    refine pv_istore (pc := 44) (i := 5) (by decide) rfl (fm_dec dtX11_saysBy 25 rfl) ?_
    dsimp only [List.set_cons_zero, List.set_cons_succ]
    refine pv_iincc (pc := 46) 6 1 (by decide) rfl (by decide) rfl (fm_dec dtX11_saysBy 26 rfl) ?_
    dsimp only [List.set_cons_zero, List.set_cons_succ]
    rw [show (2 : Int32) + 1 = 3 by decide]
    refine pv_goto (pc := 49) 6 (by decide) (fm_dec dtX11_saysBy 27 rfl) ?_
    refine pv_iload (pc := 6) (i := 6) rfl (fm_dec dtX11_saysBy 4 rfl) ?_
    refine pv_iconst (pc := 8) (v := 3) (by decide) (fm_dec dtX11_saysBy 5 rfl) ?_
    refine pv_icmp_ge (pc := 9) 52 (by decide) (fm_dec dtX11_saysBy 6 rfl) (fun _ => ?_) (fun hc9 => by exfalso; revert hc9; decide)
    refine pv_iload (pc := 52) (i := 5) rfl (fm_dec dtX11_saysBy 28 rfl) ?_
    exact pv_ireturn (pc := 54) rfl (fm_dec dtX11_saysBy 29 rfl) (hy (by rw [sc_lt]; rw [sc_le] at hc34; omega))
set_option maxRecDepth 20000 in
theorem sb_1 {Q : fmR → fmM → Prop} {M : fmM} {t b v x y : Int32} (hy : mnV t b v x y 1 < mnV t b v x y 2 → Q (.inl (some (.int 2))) M) (hn : ¬ mnV t b v x y 1 < mnV t b v x y 2 → Q (.inl (some (.int 1))) M) : pvEv Tm 1 qX11_saysBy 6 [some (.int t), some (.int b), some (.int v), some (.int x), some (.int y), some (.int 1), some (.int 2)] [] M Q := by
  refine pv_iload (pc := 6) (i := 6) rfl (fm_dec dtX11_saysBy 4 rfl) ?_
  refine pv_iconst (pc := 8) (v := 3) (by decide) (fm_dec dtX11_saysBy 5 rfl) ?_
  refine pv_icmp_ge (pc := 9) 52 (by decide) (fm_dec dtX11_saysBy 6 rfl) (fun hc9 => by exfalso; revert hc9; decide) (fun _ => ?_)
  refine pv_iloadn (pc := 12) (n := 0) 0 rfl rfl (fm_dec dtX11_saysBy 7 rfl) ?_
  refine pv_iloadn (pc := 13) (n := 1) 1 rfl rfl (fm_dec dtX11_saysBy 8 rfl) ?_
  refine pv_iloadn (pc := 14) (n := 2) 2 rfl rfl (fm_dec dtX11_saysBy 9 rfl) ?_
  refine pv_iloadn (pc := 15) (n := 3) 3 rfl rfl (fm_dec dtX11_saysBy 10 rfl) ?_
  refine pv_iload (pc := 16) (i := 4) rfl (fm_dec dtX11_saysBy 11 rfl) ?_
  refine pv_iload (pc := 18) (i := 6) rfl (fm_dec dtX11_saysBy 12 rfl) ?_
  refine pv_iS6 (d' := 0) (pc := 20) pcs_X11_393 (Nat.le_of_ble_eq_true rfl) (by decide) (fm_dec dtX11_saysBy 13 rfl) ?_
  refine c_bringsBy ?_
  refine pv_then1 ?_
  refine pv_iloadn (pc := 23) (n := 0) 0 rfl rfl (fm_dec dtX11_saysBy 14 rfl) ?_
  refine pv_iloadn (pc := 24) (n := 1) 1 rfl rfl (fm_dec dtX11_saysBy 15 rfl) ?_
  refine pv_iloadn (pc := 25) (n := 2) 2 rfl rfl (fm_dec dtX11_saysBy 16 rfl) ?_
  refine pv_iloadn (pc := 26) (n := 3) 3 rfl rfl (fm_dec dtX11_saysBy 17 rfl) ?_
  refine pv_iload (pc := 27) (i := 4) rfl (fm_dec dtX11_saysBy 18 rfl) ?_
  refine pv_iload (pc := 29) (i := 5) rfl (fm_dec dtX11_saysBy 19 rfl) ?_
  refine pv_iS6 (d' := 0) (pc := 31) pcs_X11_393 (Nat.le_of_ble_eq_true rfl) (by decide) (fm_dec dtX11_saysBy 20 rfl) ?_
  refine c_bringsBy ?_
  refine pv_then1 ?_
  refine pv_icmp_le (pc := 34) 42 (by decide) (fm_dec dtX11_saysBy 21 rfl) (fun hc34 => ?_) (fun hc34 => ?_)
  · refine pv_iload (pc := 42) (i := 5) rfl (fm_dec dtX11_saysBy 24 rfl) ?_
    refine pv_istore (pc := 44) (i := 5) (by decide) rfl (fm_dec dtX11_saysBy 25 rfl) ?_
    dsimp only [List.set_cons_zero, List.set_cons_succ]
    refine pv_iincc (pc := 46) 6 1 (by decide) rfl (by decide) rfl (fm_dec dtX11_saysBy 26 rfl) ?_
    dsimp only [List.set_cons_zero, List.set_cons_succ]
    rw [show (2 : Int32) + 1 = 3 by decide]
    refine pv_goto (pc := 49) 6 (by decide) (fm_dec dtX11_saysBy 27 rfl) ?_
    refine pv_iload (pc := 6) (i := 6) rfl (fm_dec dtX11_saysBy 4 rfl) ?_
    refine pv_iconst (pc := 8) (v := 3) (by decide) (fm_dec dtX11_saysBy 5 rfl) ?_
    refine pv_icmp_ge (pc := 9) 52 (by decide) (fm_dec dtX11_saysBy 6 rfl) (fun _ => ?_) (fun hc9 => by exfalso; revert hc9; decide)
    refine pv_iload (pc := 52) (i := 5) rfl (fm_dec dtX11_saysBy 28 rfl) ?_
    exact pv_ireturn (pc := 54) rfl (fm_dec dtX11_saysBy 29 rfl) (hn (by rw [sc_lt]; rw [sc_le] at hc34; omega))
  · refine pv_iload (pc := 37) (i := 6) rfl (fm_dec dtX11_saysBy 22 rfl) ?_
    refine pv_goto (pc := 39) 44 (by decide) (fm_dec dtX11_saysBy 23 rfl) ?_
    refine pv_istore (pc := 44) (i := 5) (by decide) rfl (fm_dec dtX11_saysBy 25 rfl) ?_
    dsimp only [List.set_cons_zero, List.set_cons_succ]
    refine pv_iincc (pc := 46) 6 1 (by decide) rfl (by decide) rfl (fm_dec dtX11_saysBy 26 rfl) ?_
    dsimp only [List.set_cons_zero, List.set_cons_succ]
    rw [show (2 : Int32) + 1 = 3 by decide]
    refine pv_goto (pc := 49) 6 (by decide) (fm_dec dtX11_saysBy 27 rfl) ?_
    refine pv_iload (pc := 6) (i := 6) rfl (fm_dec dtX11_saysBy 4 rfl) ?_
    refine pv_iconst (pc := 8) (v := 3) (by decide) (fm_dec dtX11_saysBy 5 rfl) ?_
    refine pv_icmp_ge (pc := 9) 52 (by decide) (fm_dec dtX11_saysBy 6 rfl) (fun _ => ?_) (fun hc9 => by exfalso; revert hc9; decide)
    refine pv_iload (pc := 52) (i := 5) rfl (fm_dec dtX11_saysBy 28 rfl) ?_
    exact pv_ireturn (pc := 54) rfl (fm_dec dtX11_saysBy 29 rfl) (hy (by rw [sc_lt]; rw [sc_le] at hc34; omega))
set_option maxRecDepth 20000 in
theorem c_saysBy {M : fmM} {Q : fmR → fmM → Prop} {t b v x y : Int32} (hq : Q (.inl (some (.int (bwV t b v x y)))) M) : pvGood Tm 1 qX11_saysBy [.int t, .int b, .int v, .int x, .int y] M Q := by
  refine pvGood_of (Nat.le_of_ble_eq_true rfl) ?_
  show pvEv Tm 1 qX11_saysBy 0 [some (.int t), some (.int b), some (.int v), some (.int x), some (.int y), none, none] [] M Q
  refine pv_iconst (pc := 0) (v := 0) (by decide) (fm_dec dtX11_saysBy 0 rfl) ?_
  refine pv_istore (pc := 1) (i := 5) (by decide) rfl (fm_dec dtX11_saysBy 1 rfl) ?_
  dsimp only [List.set_cons_zero, List.set_cons_succ]
  refine pv_iconst (pc := 3) (v := 1) (by decide) (fm_dec dtX11_saysBy 2 rfl) ?_
  refine pv_istore (pc := 4) (i := 6) (by decide) rfl (fm_dec dtX11_saysBy 3 rfl) ?_
  dsimp only [List.set_cons_zero, List.set_cons_succ]
  refine pv_iload (pc := 6) (i := 6) rfl (fm_dec dtX11_saysBy 4 rfl) ?_
  refine pv_iconst (pc := 8) (v := 3) (by decide) (fm_dec dtX11_saysBy 5 rfl) ?_
  refine pv_icmp_ge (pc := 9) 52 (by decide) (fm_dec dtX11_saysBy 6 rfl) (fun hc9 => by exfalso; revert hc9; decide) (fun _ => ?_)
  refine pv_iloadn (pc := 12) (n := 0) 0 rfl rfl (fm_dec dtX11_saysBy 7 rfl) ?_
  refine pv_iloadn (pc := 13) (n := 1) 1 rfl rfl (fm_dec dtX11_saysBy 8 rfl) ?_
  refine pv_iloadn (pc := 14) (n := 2) 2 rfl rfl (fm_dec dtX11_saysBy 9 rfl) ?_
  refine pv_iloadn (pc := 15) (n := 3) 3 rfl rfl (fm_dec dtX11_saysBy 10 rfl) ?_
  refine pv_iload (pc := 16) (i := 4) rfl (fm_dec dtX11_saysBy 11 rfl) ?_
  refine pv_iload (pc := 18) (i := 6) rfl (fm_dec dtX11_saysBy 12 rfl) ?_
  refine pv_iS6 (d' := 0) (pc := 20) pcs_X11_393 (Nat.le_of_ble_eq_true rfl) (by decide) (fm_dec dtX11_saysBy 13 rfl) ?_
  refine c_bringsBy ?_
  refine pv_then1 ?_
  refine pv_iloadn (pc := 23) (n := 0) 0 rfl rfl (fm_dec dtX11_saysBy 14 rfl) ?_
  refine pv_iloadn (pc := 24) (n := 1) 1 rfl rfl (fm_dec dtX11_saysBy 15 rfl) ?_
  refine pv_iloadn (pc := 25) (n := 2) 2 rfl rfl (fm_dec dtX11_saysBy 16 rfl) ?_
  refine pv_iloadn (pc := 26) (n := 3) 3 rfl rfl (fm_dec dtX11_saysBy 17 rfl) ?_
  refine pv_iload (pc := 27) (i := 4) rfl (fm_dec dtX11_saysBy 18 rfl) ?_
  refine pv_iload (pc := 29) (i := 5) rfl (fm_dec dtX11_saysBy 19 rfl) ?_
  refine pv_iS6 (d' := 0) (pc := 31) pcs_X11_393 (Nat.le_of_ble_eq_true rfl) (by decide) (fm_dec dtX11_saysBy 20 rfl) ?_
  refine c_bringsBy ?_
  refine pv_then1 ?_
  refine pv_icmp_le (pc := 34) 42 (by decide) (fm_dec dtX11_saysBy 21 rfl) (fun hc34 => ?_) (fun hc34 => ?_)
  · refine pv_iload (pc := 42) (i := 5) rfl (fm_dec dtX11_saysBy 24 rfl) ?_
    refine pv_istore (pc := 44) (i := 5) (by decide) rfl (fm_dec dtX11_saysBy 25 rfl) ?_
    dsimp only [List.set_cons_zero, List.set_cons_succ]
    refine pv_iincc (pc := 46) 6 1 (by decide) rfl (by decide) rfl (fm_dec dtX11_saysBy 26 rfl) ?_
    dsimp only [List.set_cons_zero, List.set_cons_succ]
    rw [show (1 : Int32) + 1 = 2 by decide]
    refine pv_goto (pc := 49) 6 (by decide) (fm_dec dtX11_saysBy 27 rfl) ?_
    have e1 : b1V t b v x y = 0 := if_neg (by rw [sc_lt]; rw [sc_le] at hc34; omega)
    refine sb_0 (fun h => ?_) (fun h => ?_)
    · have h9 := hq; unfold bwV at h9; rw [e1, if_pos h] at h9; exact h9
    · have h9 := hq; unfold bwV at h9; rw [e1, if_neg h] at h9; exact h9
  · refine pv_iload (pc := 37) (i := 6) rfl (fm_dec dtX11_saysBy 22 rfl) ?_
    refine pv_goto (pc := 39) 44 (by decide) (fm_dec dtX11_saysBy 23 rfl) ?_
    refine pv_istore (pc := 44) (i := 5) (by decide) rfl (fm_dec dtX11_saysBy 25 rfl) ?_
    dsimp only [List.set_cons_zero, List.set_cons_succ]
    refine pv_iincc (pc := 46) 6 1 (by decide) rfl (by decide) rfl (fm_dec dtX11_saysBy 26 rfl) ?_
    dsimp only [List.set_cons_zero, List.set_cons_succ]
    rw [show (1 : Int32) + 1 = 2 by decide]
    refine pv_goto (pc := 49) 6 (by decide) (fm_dec dtX11_saysBy 27 rfl) ?_
    have e1 : b1V t b v x y = 1 := if_pos (by rw [sc_lt]; rw [sc_le] at hc34; omega)
    refine sb_1 (fun h => ?_) (fun h => ?_)
    · have h9 := hq; unfold bwV at h9; rw [e1, if_pos h] at h9; exact h9
    · have h9 := hq; unfold bwV at h9; rw [e1, if_neg h] at h9; exact h9
set_option maxRecDepth 20000 in
theorem c_msays {M : fmM} {Q : fmR → fmM → Prop} {t b v x y : Int32} (ht : inW t 0 16 ∧ rgR b v x y → Q (.inl (some (.int (bwV t b v x y)))) (fmI M 0 0 0)) (hf : ¬ (inW t 0 16 ∧ rgR b v x y) → ∀ M' : fmM, M'.1 0 0 = 1 → Q (.inl (some (.int 0))) M') : pvGood Tm 2 qX11_says [.ref 0, .int t, .int b, .int v, .int x, .int y] M Q := by
  refine pvGood_of (Nat.le_of_ble_eq_true rfl) ?_
  show pvEv Tm 2 qX11_says 0 [some (.ref 0), some (.int t), some (.int b), some (.int v), some (.int x), some (.int y)] [] M Q
  refine pv_aloadn (pc := 0) (n := 0) 0 rfl rfl (fm_dec dtX11_says 0 rfl) ?_
  refine pv_iconst (pc := 1) (v := 0) (by decide) (fm_dec dtX11_says 1 rfl) ?_
  refine pv_putI (k := 0) (j := 0) (ci := 11) (pc := 2) pfl_X11_101 (by decide) rfl (by decide) (fm_dec dtX11_says 2 rfl) ?_
  refine pv_aloadn (pc := 5) (n := 0) 0 rfl rfl (fm_dec dtX11_says 3 rfl) ?_
  refine pv_iloadn (pc := 6) (n := 1) 1 rfl rfl (fm_dec dtX11_says 4 rfl) ?_
  refine pv_iconst (pc := 7) (v := 0) (by decide) (fm_dec dtX11_says 5 rfl) ?_
  refine pv_bipush (pc := 8) (v := 16) (by decide) (fm_dec dtX11_says 6 rfl) ?_
  refine pv_iS3 (d' := 0) (pc := 10) pcs_X11_135 (Nat.le_of_ble_eq_true rfl) (by decide) (fm_dec dtX11_says 7 rfl) ?_
  refine c_in (fun h10a h10b => ?_) (fun h10 => ?_)
  · refine pv_then1 ?_
    refine pv_if_eq (pc := 13) 28 (by decide) (fm_dec dtX11_says 8 rfl) (fun hc13 => by exfalso; revert hc13; decide) (fun _ => ?_)
    refine pv_iloadn (pc := 16) (n := 2) 2 rfl rfl (fm_dec dtX11_says 9 rfl) ?_
    refine pv_iloadn (pc := 17) (n := 3) 3 rfl rfl (fm_dec dtX11_says 10 rfl) ?_
    refine pv_iload (pc := 18) (i := 4) rfl (fm_dec dtX11_says 11 rfl) ?_
    refine pv_iload (pc := 20) (i := 5) rfl (fm_dec dtX11_says 12 rfl) ?_
    refine pv_iS4 (d' := 1) (pc := 22) pcs_X11_389 (Nat.le_of_ble_eq_true rfl) (by decide) (fm_dec dtX11_says 13 rfl) ?_
    refine c_isRum (fun h22 => ?_) (fun h22 => ?_)
    · refine pv_then1 ?_
      refine pv_if_ne (pc := 25) 32 (by decide) (fm_dec dtX11_says 14 rfl) (fun _ => ?_) (fun hc25 => by exfalso; revert hc25; decide)
      refine pv_iconst (pc := 32) (v := 0) (by decide) (fm_dec dtX11_says 17 rfl) ?_
      refine pv_iconst (pc := 33) (v := 1) (by decide) (fm_dec dtX11_says 18 rfl) ?_
      refine pv_iconst (pc := 34) (v := 1) (by decide) (fm_dec dtX11_says 19 rfl) ?_
      refine pv_invV3 (k := 0) (d' := 0) (pc := 35) pcv_X11_177 (by decide) rfl (Nat.le_of_ble_eq_true rfl) (by decide) (fm_dec dtX11_says 20 rfl) ?_
      refine c_badF1 rfl ?_
      refine pv_then1 ?_
      refine pv_if_eq (pc := 38) 43 (by decide) (fm_dec dtX11_says 21 rfl) (fun _ => ?_) (fun hc38 => by exfalso; revert hc38; decide)
      refine pv_iloadn (pc := 43) (n := 1) 1 rfl rfl (fm_dec dtX11_says 24 rfl) ?_
      refine pv_iloadn (pc := 44) (n := 2) 2 rfl rfl (fm_dec dtX11_says 25 rfl) ?_
      refine pv_iloadn (pc := 45) (n := 3) 3 rfl rfl (fm_dec dtX11_says 26 rfl) ?_
      refine pv_iload (pc := 46) (i := 4) rfl (fm_dec dtX11_says 27 rfl) ?_
      refine pv_iload (pc := 48) (i := 5) rfl (fm_dec dtX11_says 28 rfl) ?_
      refine pv_iS5 (d' := 1) (pc := 50) pcs_X11_397 (Nat.le_of_ble_eq_true rfl) (by decide) (fm_dec dtX11_says 29 rfl) ?_
      refine c_saysBy ?_
      refine pv_then1 ?_
      exact pv_ireturn (pc := 53) rfl (fm_dec dtX11_says 30 rfl) (ht ⟨⟨h10a, h10b⟩, h22⟩)
    · refine pv_then1 ?_
      refine pv_if_ne (pc := 25) 32 (by decide) (fm_dec dtX11_says 14 rfl) (fun hc25 => by exfalso; revert hc25; decide) (fun _ => ?_)
      refine pv_iconst (pc := 28) (v := 1) (by decide) (fm_dec dtX11_says 15 rfl) ?_
      refine pv_goto (pc := 29) 33 (by decide) (fm_dec dtX11_says 16 rfl) ?_
      refine pv_iconst (pc := 33) (v := 1) (by decide) (fm_dec dtX11_says 18 rfl) ?_
      refine pv_iconst (pc := 34) (v := 1) (by decide) (fm_dec dtX11_says 19 rfl) ?_
      refine pv_invV3 (k := 0) (d' := 0) (pc := 35) pcv_X11_177 (by decide) rfl (Nat.le_of_ble_eq_true rfl) (by decide) (fm_dec dtX11_says 20 rfl) ?_
      refine c_badT1 rfl (by decide) ?_
      refine pv_then1 ?_
      refine pv_if_eq (pc := 38) 43 (by decide) (fm_dec dtX11_says 21 rfl) (fun hc38 => by exfalso; revert hc38; decide) (fun _ => ?_)
      refine pv_iconst (pc := 41) (v := 0) (by decide) (fm_dec dtX11_says 22 rfl) ?_
      exact pv_ireturn (pc := 42) rfl (fm_dec dtX11_says 23 rfl) (hf (by intro h9; first | exact h22 h9.2 | exact h10 h9.1) _ rfl)
  · refine pv_then1 ?_
    refine pv_if_eq (pc := 13) 28 (by decide) (fm_dec dtX11_says 8 rfl) (fun _ => ?_) (fun hc13 => by exfalso; revert hc13; decide)
    refine pv_iconst (pc := 28) (v := 1) (by decide) (fm_dec dtX11_says 15 rfl) ?_
    refine pv_goto (pc := 29) 33 (by decide) (fm_dec dtX11_says 16 rfl) ?_
    refine pv_iconst (pc := 33) (v := 1) (by decide) (fm_dec dtX11_says 18 rfl) ?_
    refine pv_iconst (pc := 34) (v := 1) (by decide) (fm_dec dtX11_says 19 rfl) ?_
    refine pv_invV3 (k := 0) (d' := 0) (pc := 35) pcv_X11_177 (by decide) rfl (Nat.le_of_ble_eq_true rfl) (by decide) (fm_dec dtX11_says 20 rfl) ?_
    refine c_badT1 rfl (by decide) ?_
    refine pv_then1 ?_
    refine pv_if_eq (pc := 38) 43 (by decide) (fm_dec dtX11_says 21 rfl) (fun hc38 => by exfalso; revert hc38; decide) (fun _ => ?_)
    refine pv_iconst (pc := 41) (v := 0) (by decide) (fm_dec dtX11_says 22 rfl) ?_
    exact pv_ireturn (pc := 42) rfl (fm_dec dtX11_says 23 rfl) (hf (by intro h9; first | exact h22 h9.2 | exact h10 h9.1) _ rfl)
set_option maxRecDepth 20000 in
theorem ln_m {Q : fmR → fmM → Prop} {M : fmM} {b v x y : Int32} : ∀ (n k : Nat), k + n = 17 → Q (.inl (some (.int (lnV b v x y n k)))) M → pvEv Tm 2 qX11_line 35 [some (.ref 0), some (.int b), some (.int v), some (.int x), some (.int y), some (.int (nI k))] [] M Q := by
  intro n
  induction n with
  | zero =>
    intro k hk hq
    refine pv_iload (pc := 35) (i := 5) rfl (fm_dec dtX11_line 21 rfl) ?_
    refine pv_bipush (pc := 37) (v := 16) (by decide) (fm_dec dtX11_line 22 rfl) ?_
    refine pv_icmp_gt (pc := 39) 64 (by decide) (fm_dec dtX11_line 23 rfl) (fun _ => ?_) (fun hc39 => by exfalso; apply hc39; rw [sc_lt]; have h8 : (16 : Int32).toInt = 16 := (by decide); have h7 : (nI k).toInt = (k : Int) := nI_toInt (by omega); omega)
    refine pv_iconst (pc := 64) (v := (-1)) (by decide) (fm_dec dtX11_line 35 rfl) ?_
    exact pv_ireturn (pc := 65) rfl (fm_dec dtX11_line 36 rfl) (hq : _)
  | succ n ih =>
    intro k hk hq
    refine pv_iload (pc := 35) (i := 5) rfl (fm_dec dtX11_line 21 rfl) ?_
    refine pv_bipush (pc := 37) (v := 16) (by decide) (fm_dec dtX11_line 22 rfl) ?_
    refine pv_icmp_gt (pc := 39) 64 (by decide) (fm_dec dtX11_line 23 rfl) (fun hc39 => by exfalso; rw [sc_lt] at hc39; have h8 : (16 : Int32).toInt = 16 := (by decide); have h7 : (nI k).toInt = (k : Int) := nI_toInt (by omega); omega) (fun _ => ?_)
    refine pv_iload (pc := 42) (i := 5) rfl (fm_dec dtX11_line 24 rfl) ?_
    refine pv_iloadn (pc := 44) (n := 1) 1 rfl rfl (fm_dec dtX11_line 25 rfl) ?_
    refine pv_iloadn (pc := 45) (n := 2) 2 rfl rfl (fm_dec dtX11_line 26 rfl) ?_
    refine pv_iloadn (pc := 46) (n := 3) 3 rfl rfl (fm_dec dtX11_line 27 rfl) ?_
    refine pv_iload (pc := 47) (i := 4) rfl (fm_dec dtX11_line 28 rfl) ?_
    refine pv_iS5 (d' := 1) (pc := 49) pcs_X11_397 (Nat.le_of_ble_eq_true rfl) (by decide) (fm_dec dtX11_line 29 rfl) ?_
    refine c_saysBy ?_
    refine pv_then1 ?_
    refine pv_if_ne (pc := 52) 58 (by decide) (fm_dec dtX11_line 30 rfl) (fun hc52 => ?_) (fun hc52 => ?_)
    · refine pv_iincc (pc := 58) 5 1 (by decide) rfl (by decide) rfl (fm_dec dtX11_line 33 rfl) ?_
      dsimp only [List.set_cons_zero, List.set_cons_succ]
      refine pv_goto (pc := 61) 35 (by decide) (fm_dec dtX11_line 34 rfl) ?_
      rw [nI_succ1]
      refine ih (k + 1) (by omega) ?_
      have h9 := hq; simp only [lnV] at h9; rw [if_neg hc52] at h9; exact h9
    · refine pv_iload (pc := 55) (i := 5) rfl (fm_dec dtX11_line 31 rfl) ?_
      exact pv_ireturn (pc := 57) rfl (fm_dec dtX11_line 32 rfl) (by have h9 := hq; simp only [lnV] at h9; rw [if_pos hc52] at h9; exact h9)
set_option maxRecDepth 20000 in
theorem c_mline {M : fmM} {Q : fmR → fmM → Prop} {b v x y : Int32} (ht : rgR b v x y → Q (.inl (some (.int (lnV b v x y 17 0)))) (fmI M 0 0 0)) (hf : ¬ (rgR b v x y) → ∀ M' : fmM, M'.1 0 0 = 1 → Q (.inl (some (.int 0))) M') : pvGood Tm 2 qX11_line [.ref 0, .int b, .int v, .int x, .int y] M Q := by
  refine pvGood_of (Nat.le_of_ble_eq_true rfl) ?_
  show pvEv Tm 2 qX11_line 0 [some (.ref 0), some (.int b), some (.int v), some (.int x), some (.int y), none] [] M Q
  refine pv_aloadn (pc := 0) (n := 0) 0 rfl rfl (fm_dec dtX11_line 0 rfl) ?_
  refine pv_iconst (pc := 1) (v := 0) (by decide) (fm_dec dtX11_line 1 rfl) ?_
  refine pv_putI (k := 0) (j := 0) (ci := 11) (pc := 2) pfl_X11_101 (by decide) rfl (by decide) (fm_dec dtX11_line 2 rfl) ?_
  refine pv_aloadn (pc := 5) (n := 0) 0 rfl rfl (fm_dec dtX11_line 3 rfl) ?_
  refine pv_iloadn (pc := 6) (n := 1) 1 rfl rfl (fm_dec dtX11_line 4 rfl) ?_
  refine pv_iloadn (pc := 7) (n := 2) 2 rfl rfl (fm_dec dtX11_line 5 rfl) ?_
  refine pv_iloadn (pc := 8) (n := 3) 3 rfl rfl (fm_dec dtX11_line 6 rfl) ?_
  refine pv_iload (pc := 9) (i := 4) rfl (fm_dec dtX11_line 7 rfl) ?_
  refine pv_iS4 (d' := 1) (pc := 11) pcs_X11_389 (Nat.le_of_ble_eq_true rfl) (by decide) (fm_dec dtX11_line 8 rfl) ?_
  refine c_isRum (fun h11 => ?_) (fun h11 => ?_)
  · refine pv_then1 ?_
    refine pv_if_ne (pc := 14) 21 (by decide) (fm_dec dtX11_line 9 rfl) (fun _ => ?_) (fun hc14 => by exfalso; revert hc14; decide)
    refine pv_iconst (pc := 21) (v := 0) (by decide) (fm_dec dtX11_line 12 rfl) ?_
    refine pv_iconst (pc := 22) (v := 1) (by decide) (fm_dec dtX11_line 13 rfl) ?_
    refine pv_iconst (pc := 23) (v := 1) (by decide) (fm_dec dtX11_line 14 rfl) ?_
    refine pv_invV3 (k := 0) (d' := 0) (pc := 24) pcv_X11_177 (by decide) rfl (Nat.le_of_ble_eq_true rfl) (by decide) (fm_dec dtX11_line 15 rfl) ?_
    refine c_badF1 rfl ?_
    refine pv_then1 ?_
    refine pv_if_eq (pc := 27) 32 (by decide) (fm_dec dtX11_line 16 rfl) (fun _ => ?_) (fun hc27 => by exfalso; revert hc27; decide)
    refine pv_iconst (pc := 32) (v := 0) (by decide) (fm_dec dtX11_line 19 rfl) ?_
    refine pv_istore (pc := 33) (i := 5) (by decide) rfl (fm_dec dtX11_line 20 rfl) ?_
    dsimp only [List.set_cons_zero, List.set_cons_succ]
    exact ln_m 17 0 (by decide) (ht h11)
  · refine pv_then1 ?_
    refine pv_if_ne (pc := 14) 21 (by decide) (fm_dec dtX11_line 9 rfl) (fun hc14 => by exfalso; revert hc14; decide) (fun _ => ?_)
    refine pv_iconst (pc := 17) (v := 1) (by decide) (fm_dec dtX11_line 10 rfl) ?_
    refine pv_goto (pc := 18) 22 (by decide) (fm_dec dtX11_line 11 rfl) ?_
    refine pv_iconst (pc := 22) (v := 1) (by decide) (fm_dec dtX11_line 13 rfl) ?_
    refine pv_iconst (pc := 23) (v := 1) (by decide) (fm_dec dtX11_line 14 rfl) ?_
    refine pv_invV3 (k := 0) (d' := 0) (pc := 24) pcv_X11_177 (by decide) rfl (Nat.le_of_ble_eq_true rfl) (by decide) (fm_dec dtX11_line 15 rfl) ?_
    refine c_badT1 rfl (by decide) ?_
    refine pv_then1 ?_
    refine pv_if_eq (pc := 27) 32 (by decide) (fm_dec dtX11_line 16 rfl) (fun hc27 => by exfalso; revert hc27; decide) (fun _ => ?_)
    refine pv_iconst (pc := 30) (v := 0) (by decide) (fm_dec dtX11_line 17 rfl) ?_
    exact pv_ireturn (pc := 31) rfl (fm_dec dtX11_line 18 rfl) (hf h11 _ rfl)
theorem xe_brings {M : fmM} {t b v x y w : Int32} : pvGood Tx 2 qX10_brings [.ref 0, .int t, .int b, .int v, .int x, .int y, .int w] M (fun r _ => ((inW t 0 16 ∧ rgR b v x y ∧ inW w 0 2) ∧ r = .inl (some (.int (mnV t b v x y w)))) ∨ (¬ (inW t 0 16 ∧ rgR b v x y ∧ inW w 0 2) ∧ r = .inr fmIAE)) := c_xbrings (fun h => Or.inl ⟨h, rfl⟩) (fun h => Or.inr ⟨h, rfl⟩)
theorem me_brings {M : fmM} {t b v x y w : Int32} : pvGood Tm 2 qX11_brings [.ref 0, .int t, .int b, .int v, .int x, .int y, .int w] M (fun r M' => ((inW t 0 16 ∧ rgR b v x y ∧ inW w 0 2) ∧ r = .inl (some (.int (mnV t b v x y w))) ∧ M'.1 0 0 = 0) ∨ (¬ (inW t 0 16 ∧ rgR b v x y ∧ inW w 0 2) ∧ M'.1 0 0 = 1)) := c_mbrings (fun h => Or.inl ⟨h, rfl, rfl⟩) (fun h M' e => Or.inr ⟨h, e⟩)
theorem xe_says {M : fmM} {t b v x y : Int32} : pvGood Tx 2 qX10_says [.ref 0, .int t, .int b, .int v, .int x, .int y] M (fun r _ => ((inW t 0 16 ∧ rgR b v x y) ∧ r = .inl (some (.int (bwV t b v x y)))) ∨ (¬ (inW t 0 16 ∧ rgR b v x y) ∧ r = .inr fmIAE)) := c_xsays (fun h => Or.inl ⟨h, rfl⟩) (fun h => Or.inr ⟨h, rfl⟩)
theorem me_says {M : fmM} {t b v x y : Int32} : pvGood Tm 2 qX11_says [.ref 0, .int t, .int b, .int v, .int x, .int y] M (fun r M' => ((inW t 0 16 ∧ rgR b v x y) ∧ r = .inl (some (.int (bwV t b v x y))) ∧ M'.1 0 0 = 0) ∨ (¬ (inW t 0 16 ∧ rgR b v x y) ∧ M'.1 0 0 = 1)) := c_msays (fun h => Or.inl ⟨h, rfl, rfl⟩) (fun h M' e => Or.inr ⟨h, e⟩)
theorem xe_line {M : fmM} {b v x y : Int32} : pvGood Tx 2 qX10_line [.ref 0, .int b, .int v, .int x, .int y] M (fun r _ => ((rgR b v x y) ∧ r = .inl (some (.int (lnV b v x y 17 0)))) ∨ (¬ (rgR b v x y) ∧ r = .inr fmIAE)) := c_xline (fun h => Or.inl ⟨h, rfl⟩) (fun h => Or.inr ⟨h, rfl⟩)
theorem me_line {M : fmM} {b v x y : Int32} : pvGood Tm 2 qX11_line [.ref 0, .int b, .int v, .int x, .int y] M (fun r M' => ((rgR b v x y) ∧ r = .inl (some (.int (lnV b v x y 17 0))) ∧ M'.1 0 0 = 0) ∨ (¬ (rgR b v x y) ∧ M'.1 0 0 = 1)) := c_mline (fun h => Or.inl ⟨h, rfl, rfl⟩) (fun h M' e => Or.inr ⟨h, e⟩)
