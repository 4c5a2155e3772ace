theorem fm_topE {T : fmT} {l : Launch} {G : fmG} {d : Nat} {y : fmY} {pc : Nat} {L : List (Option Value)} {st : List Value} {M : fmM} {Q : fmR → fmM → Prop} {x v : Int32} (h : x = v) (k : fmEv T l G d y pc L (.int v :: st) M Q) : fmEv T l G d y pc L (.int x :: st) M Q := by rw [h]; exact k
theorem fm_topJ {T : fmT} {l : Launch} {G : fmG} {d : Nat} {y : fmY} {pc : Nat} {L : List (Option Value)} {st : List Value} {M : fmM} {Q : fmR → fmM → Prop} {x v : Int64} (h : x = v) (k : fmEv T l G d y pc L (.long v :: st) M Q) : fmEv T l G d y pc L (.long x :: st) M Q := by rw [h]; exact k
theorem fm_stE {T : fmT} {l : Launch} {G : fmG} {d : Nat} {y : fmY} {pc : Nat} {L : List (Option Value)} {st st' : List Value} {M : fmM} {Q : fmR → fmM → Prop} (h : st = st') (k : fmEv T l G d y pc L st' M Q) : fmEv T l G d y pc L st M Q := by rw [h]; exact k
def shE : Nat → Int32
  | 0 => -8
  | 1 => 0
  | 2 => 8
  | 3 => 16
  | _ => 24
theorem shE_s : ∀ j, j < 4 → shE (j + 1) + (-8) = shE j := by decide
theorem shE_p : ∀ j, j < 4 → ¬ shE (j + 1) < 0 := by decide
theorem vp_inR {r : Int32} {n : Nat} (hi : Int32) (h : inR r 0 hi) (hn : hi.toInt < n) : vp_in r n := by
  have h9 := inR_toInt h
  rw [show (0 : Int32).toInt = 0 by decide] at h9
  exact vp_in_iff.mpr ⟨h9.1, by omega⟩

theorem fm_eqL {T : fmT} {l : Launch} {G : fmG} {d : Nat} {y : fmY} {pc : Nat} {L : List (Option Value)} {st : List Value} {M : fmM} {Q : fmR → fmM → Prop} {i : Nat} {v : Value} (h : L[i]? = some (some v)) (k : fmEv T l G d y pc (L.set i (some v)) st M Q) : fmEv T l G d y pc L st M Q := fm_less (fun j w hj => by
  rw [List.getElem?_set] at hj
  by_cases e : i = j
  · subst e
    simp only [if_true] at hj
    split at hj
    · simp at hj; subst hj; exact h
    · cases hj
  · simp only [e, if_false] at hj
    exact hj) k

set_option maxRecDepth 20000 in
theorem put_loop {l : Launch} {G : fmG} {Q : fmR → fmM → Prop} (hst : l.stackTraces = false) (num : Int32) : ∀ (j : Nat) (M : fmM) (f : Nat), j ≤ 4 → M.1 1 1 = nI f → f + j ≤ 600 → (∀ M', M'.1 1 1 = nI (f + j) → (∀ k, k ≠ 1 → k ≠ 2 → M'.1 k = M.1 k) → Q (.inl none) M') → fmEv Tx l G 0 qX7_put 3 [some (.ref (G.1 1)), some (.int num), some (.int (shE j))] [] M Q := by
  intro j
  induction j with
  | zero =>
    intro M f _ hM _ hq
    refine fm_iloadn (pc := 3) (n := 2) 2 rfl rfl (fm_dec dtX7_put 2 rfl) ?_
    refine fm_if_lt (pc := 4) 46 (by decide) (fm_dec dtX7_put 3 rfl) (fun _ => ?_) (fun hc4 => by exfalso; exact hc4 (by decide))
    exact fm_return (pc := 46) rfl (fm_dec dtX7_put 25 rfl) (hq M hM (fun _ _ _ => rfl))
  | succ j ih =>
    intro M f hj hM hf hq
    refine fm_iloadn (pc := 3) (n := 2) 2 rfl rfl (fm_dec dtX7_put 2 rfl) ?_
    refine fm_if_lt (pc := 4) 46 (by decide) (fm_dec dtX7_put 3 rfl) (fun hc4 => by exfalso; exact shE_p j (by omega) hc4) (fun _ => ?_)
    refine fm_aloadn (pc := 7) (n := 0) 0 rfl rfl (fm_dec dtX7_put 4 rfl) ?_
    refine fm_getI (k := 1) (j := 1) (ci := 7) (pc := 8) fl_X7_19 (by decide) rfl (by decide) rfl (fm_dec dtX7_put 5 rfl) ?_
    refine fm_sipush (pc := 11) (v := 600) (by decide) (fm_dec dtX7_put 6 rfl) ?_
    refine fm_icmp_ge (pc := 14) 46 (by decide) (fm_dec dtX7_put 7 rfl) (fun hc14 => by exfalso; rw [hM, show (600 : Int32) = nI 600 by decide] at hc14; exact nI_ge (show f < 600 by omega) (by decide) hc14) (fun _ => ?_)
    refine fm_aloadn (pc := 17) (n := 0) 0 rfl rfl (fm_dec dtX7_put 8 rfl) ?_
    refine fm_getR (k := 1) (j := 0) (ci := 7) (pc := 18) 2 rfl fl_X7_9 (by decide) rfl (by decide) (by decide) (fm_dec dtX7_put 9 rfl) ?_
    refine fm_aloadn (pc := 21) (n := 0) 0 rfl rfl (fm_dec dtX7_put 10 rfl) ?_
    refine fm_getI (k := 1) (j := 1) (ci := 7) (pc := 22) fl_X7_19 (by decide) rfl (by decide) rfl (fm_dec dtX7_put 11 rfl) ?_
    refine fm_iloadn (pc := 25) (n := 1) 1 rfl rfl (fm_dec dtX7_put 12 rfl) ?_
    refine fm_iloadn (pc := 26) (n := 2) 2 rfl rfl (fm_dec dtX7_put 13 rfl) ?_
    refine fm_ishr (pc := 27) (fm_dec dtX7_put 14 rfl) ?_
    refine fm_i2b (pc := 28) (fm_dec dtX7_put 15 rfl) ?_
    refine fm_bast (k := 2) (n := 600) (pc := 29) (by decide) rfl rfl (by rw [hM]; exact vp_in_nI (by omega) (by decide)) (fm_dec dtX7_put 16 rfl) ?_
    refine fm_aloadn (pc := 30) (n := 0) 0 rfl rfl (fm_dec dtX7_put 17 rfl) ?_
    refine fm_dup (pc := 31) rfl (fm_dec dtX7_put 18 rfl) ?_
    refine fm_getI (k := 1) (j := 1) (ci := 7) (pc := 32) fl_X7_19 (by decide) rfl (by decide) rfl (fm_dec dtX7_put 19 rfl) ?_
    refine fm_iconst (pc := 35) (v := 1) (by decide) (fm_dec dtX7_put 20 rfl) ?_
    refine fm_iadd (pc := 36) (fm_dec dtX7_put 21 rfl) ?_
    refine fm_putI (k := 1) (j := 1) (ci := 7) (pc := 37) fl_X7_19 (by decide) rfl (by decide) rfl rfl (fm_dec dtX7_put 22 rfl) ?_
    refine fm_iincc (pc := 40) 2 (-8) (by decide) rfl (by decide) rfl (fm_dec dtX7_put 23 rfl) ?_
    dsimp only [List.set_cons_zero, List.set_cons_succ]
    refine fm_goto (pc := 43) 3 (by decide) (fm_dec dtX7_put 24 rfl) ?_
    refine fm_eqL (i := 2) (v := .int (shE j)) (by rw [← shE_s j (by omega)]; rfl) ?_
    dsimp only [List.set_cons_zero, List.set_cons_succ]
    refine ih _ (f + 1) (by omega) (by simp only [fmI, upd, if_true, hM]; first | exact nI_1 f | (simp [hM]; exact nI_1 f)) (by omega) (fun M1 e1 e2 => ?_)
    refine hq M1 (by rw [e1]; congr 1; omega) (fun k h1 h2 => ?_)
    rw [e2 k h1 h2]
    simp [fmI, h1, h2]

set_option maxRecDepth 20000 in
theorem c_put {l : Launch} {G : fmG} {M : fmM} {Q : fmR → fmM → Prop} (hst : l.stackTraces = false) (num : Int32) (f : Nat) (hM : M.1 1 1 = nI f) (hf : f + 4 ≤ 600) (hq : ∀ M', M'.1 1 1 = nI (f + 4) → (∀ k, k ≠ 1 → k ≠ 2 → M'.1 k = M.1 k) → Q (.inl none) M') : fmGood Tx l G 0 qX7_put [.ref (G.1 1), .int num] M Q := by
  refine fmGood_of hst (by decide +kernel) (Nat.le_of_ble_eq_true rfl) ?_
  show fmEv Tx l G 0 qX7_put 0 [some (.ref (G.1 1)), some (.int num), none] [] M Q
  refine fm_bipush (pc := 0) (v := 24) (by decide) (fm_dec dtX7_put 0 rfl) ?_
  refine fm_istoren (pc := 2) (n := 2) 2 rfl (by decide) rfl (fm_dec dtX7_put 1 rfl) ?_
  dsimp only [List.set_cons_zero, List.set_cons_succ]
  exact put_loop hst num 4 M f (by omega) hM hf hq

set_option maxRecDepth 20000 in
theorem x_feed {l : Launch} {G : fmG} {M : fmM} {Q : fmR → fmM → Prop} (hst : l.stackTraces = false) (a b c d e : Int32) (h1 : M.1 1 1 = 0) (hq : ∀ M', Q (.inl (some (.int 20))) M') : fmGood Tx l G 1 qX10_feed [.ref (G.1 0), .int a, .int b, .int c, .int d, .int e] M Q := by
  refine fmGood_of hst (by decide +kernel) (Nat.le_of_ble_eq_true rfl) ?_
  show fmEv Tx l G 1 qX10_feed 0 [some (.ref (G.1 0)), some (.int a), some (.int b), some (.int c), some (.int d), some (.int e)] [] M Q
  refine fm_aloadn (pc := 0) (n := 0) 0 rfl rfl (fm_dec dtX10_feed 0 rfl) ?_
  refine fm_getR (k := 0) (j := 0) (ci := 10) (pc := 1) 1 rfl fl_X10_12 (by decide) rfl (by decide) (by decide) (fm_dec dtX10_feed 1 rfl) ?_
  refine fm_getI (k := 1) (j := 1) (ci := 7) (pc := 4) fl_X10_100 (by decide) rfl (by decide) rfl (fm_dec dtX10_feed 2 rfl) ?_
  refine fm_bipush (pc := 7) (v := 20) (by decide) (fm_dec dtX10_feed 3 rfl) ?_
  refine fm_iadd (pc := 9) (fm_dec dtX10_feed 4 rfl) ?_
  refine fm_sipush (pc := 10) (v := 600) (by decide) (fm_dec dtX10_feed 5 rfl) ?_
  refine fm_icmp_le (pc := 13) 18 (by decide) (fm_dec dtX10_feed 6 rfl) (fun _ => ?_) (fun hc13 => by exfalso; rw [h1] at hc13; exact hc13 (by decide))
  refine fm_aloadn (pc := 18) (n := 0) 0 rfl rfl (fm_dec dtX10_feed 9 rfl) ?_
  refine fm_getR (k := 0) (j := 0) (ci := 10) (pc := 19) 1 rfl fl_X10_12 (by decide) rfl (by decide) (by decide) (fm_dec dtX10_feed 10 rfl) ?_
  refine fm_iloadn (pc := 22) (n := 1) 1 rfl rfl (fm_dec dtX10_feed 11 rfl) ?_
  refine fm_invV1 (k := 1) (d' := 0) (pc := 23) cv_X10_104 (by decide) rfl (Nat.le_of_ble_eq_true rfl) (by decide) (fm_dec dtX10_feed 12 rfl) ?_
  refine c_put hst _ 0 (by rw [h1]; decide) (by decide) (fun M23 e23 f23 => ?_)
  refine fm_then0 ?_
  refine fm_aloadn (pc := 26) (n := 0) 0 rfl rfl (fm_dec dtX10_feed 13 rfl) ?_
  refine fm_getR (k := 0) (j := 0) (ci := 10) (pc := 27) 1 rfl fl_X10_12 (by decide) rfl (by decide) (by decide) (fm_dec dtX10_feed 14 rfl) ?_
  refine fm_iloadn (pc := 30) (n := 2) 2 rfl rfl (fm_dec dtX10_feed 15 rfl) ?_
  refine fm_invV1 (k := 1) (d' := 0) (pc := 31) cv_X10_104 (by decide) rfl (Nat.le_of_ble_eq_true rfl) (by decide) (fm_dec dtX10_feed 16 rfl) ?_
  refine c_put hst _ 4 e23 (by decide) (fun M31 e31 f31 => ?_)
  refine fm_then0 ?_
  refine fm_aloadn (pc := 34) (n := 0) 0 rfl rfl (fm_dec dtX10_feed 17 rfl) ?_
  refine fm_getR (k := 0) (j := 0) (ci := 10) (pc := 35) 1 rfl fl_X10_12 (by decide) rfl (by decide) (by decide) (fm_dec dtX10_feed 18 rfl) ?_
  refine fm_iloadn (pc := 38) (n := 3) 3 rfl rfl (fm_dec dtX10_feed 19 rfl) ?_
  refine fm_invV1 (k := 1) (d' := 0) (pc := 39) cv_X10_104 (by decide) rfl (Nat.le_of_ble_eq_true rfl) (by decide) (fm_dec dtX10_feed 20 rfl) ?_
  refine c_put hst _ 8 e31 (by decide) (fun M39 e39 f39 => ?_)
  refine fm_then0 ?_
  refine fm_aloadn (pc := 42) (n := 0) 0 rfl rfl (fm_dec dtX10_feed 21 rfl) ?_
  refine fm_getR (k := 0) (j := 0) (ci := 10) (pc := 43) 1 rfl fl_X10_12 (by decide) rfl (by decide) (by decide) (fm_dec dtX10_feed 22 rfl) ?_
  refine fm_iload (pc := 46) (i := 4) rfl (fm_dec dtX10_feed 23 rfl) ?_
  refine fm_invV1 (k := 1) (d' := 0) (pc := 48) cv_X10_104 (by decide) rfl (Nat.le_of_ble_eq_true rfl) (by decide) (fm_dec dtX10_feed 24 rfl) ?_
  refine c_put hst _ 12 e39 (by decide) (fun M48 e48 f48 => ?_)
  refine fm_then0 ?_
  refine fm_aloadn (pc := 51) (n := 0) 0 rfl rfl (fm_dec dtX10_feed 25 rfl) ?_
  refine fm_getR (k := 0) (j := 0) (ci := 10) (pc := 52) 1 rfl fl_X10_12 (by decide) rfl (by decide) (by decide) (fm_dec dtX10_feed 26 rfl) ?_
  refine fm_iload (pc := 55) (i := 5) rfl (fm_dec dtX10_feed 27 rfl) ?_
  refine fm_invV1 (k := 1) (d' := 0) (pc := 57) cv_X10_104 (by decide) rfl (Nat.le_of_ble_eq_true rfl) (by decide) (fm_dec dtX10_feed 28 rfl) ?_
  refine c_put hst _ 16 e48 (by decide) (fun M57 e57 f57 => ?_)
  refine fm_then0 ?_
  refine fm_aloadn (pc := 60) (n := 0) 0 rfl rfl (fm_dec dtX10_feed 29 rfl) ?_
  refine fm_getR (k := 0) (j := 0) (ci := 10) (pc := 61) 1 rfl fl_X10_12 (by decide) rfl (by decide) (by decide) (fm_dec dtX10_feed 30 rfl) ?_
  refine fm_getI (k := 1) (j := 1) (ci := 7) (pc := 64) fl_X10_100 (by decide) rfl (by decide) rfl (fm_dec dtX10_feed 31 rfl) ?_
  exact fm_ireturn (pc := 67) rfl (fm_dec dtX10_feed 32 rfl) (by rw [e57]; exact hq _)

set_option maxRecDepth 20000 in
theorem c_plus {l : Launch} {G : fmG} {M : fmM} {Q : fmR → fmM → Prop} (hst : l.stackTraces = false) (a b : Int32) (hq : Q (.inl (some (.int (a + b)))) M) : fmGood Tx l G 0 qX1_joined [.int (-8), .int a, .int b] M Q := by
  refine fmGood_of hst (by decide +kernel) (Nat.le_of_ble_eq_true rfl) ?_
  show fmEv Tx l G 0 qX1_joined 0 [some (.int (-8)), some (.int a), some (.int b)] [] M Q
  refine fm_iloadn (pc := 0) (n := 0) 0 rfl rfl (fm_dec dtX1_joined 0 rfl) ?_
  refine fm_table (pc := 1) 58 (by decide) rfl (fm_dec dtX1_joined 1 rfl) ?_
  refine fm_iloadn (pc := 58) (n := 1) 1 rfl rfl (fm_dec dtX1_joined 16 rfl) ?_
  refine fm_iloadn (pc := 59) (n := 2) 2 rfl rfl (fm_dec dtX1_joined 17 rfl) ?_
  refine fm_iadd (pc := 60) (fm_dec dtX1_joined 18 rfl) ?_
  exact fm_ireturn (pc := 61) rfl (fm_dec dtX1_joined 19 rfl) hq

set_option maxRecDepth 20000 in
theorem c_outcome0 {l : Launch} {G : fmG} {M : fmM} {Q : fmR → fmM → Prop} (hst : l.stackTraces = false) (a b c d e : Int32) (ks : M.1 23 3 = 3) (k0 : M.1 24 0 = -1) (k1 : M.1 24 1 = -1) (k2 : M.1 24 2 = -8) (hq : ∀ M', Q (.inl (some (.int (if 0 < (if a + a < 64 then a + a else 64) then (if a + a < 64 then a + a else 64) else 0)))) M') : fmGood Tx l G 1 qX1_outcome [.ref (G.1 23), .int a, .int b, .int c, .int d, .int e] M Q := by
  refine fmGood_of hst (by decide +kernel) (Nat.le_of_ble_eq_true rfl) ?_
  show fmEv Tx l G 1 qX1_outcome 0 [some (.ref (G.1 23)), some (.int a), some (.int b), some (.int c), some (.int d), some (.int e), none, none, none] [] M Q
  refine fm_iconst (pc := 0) (v := 0) (by decide) (fm_dec dtX1_outcome 0 rfl) ?_
  refine fm_istore (pc := 1) (i := 6) (by decide) rfl (fm_dec dtX1_outcome 1 rfl) ?_
  dsimp only [List.set_cons_zero, List.set_cons_succ]
  refine fm_iconst (pc := 3) (v := 0) (by decide) (fm_dec dtX1_outcome 2 rfl) ?_
  refine fm_istore (pc := 4) (i := 7) (by decide) rfl (fm_dec dtX1_outcome 3 rfl) ?_
  dsimp only [List.set_cons_zero, List.set_cons_succ]
  refine fm_iload (pc := 6) (i := 7) rfl (fm_dec dtX1_outcome 4 rfl) ?_
  refine fm_aloadn (pc := 8) (n := 0) 0 rfl rfl (fm_dec dtX1_outcome 5 rfl) ?_
  refine fm_getI (k := 23) (j := 3) (ci := 1) (pc := 9) fl_X1_24 (by decide) rfl (by decide) rfl (fm_dec dtX1_outcome 6 rfl) ?_
  refine fm_icmp_ge (pc := 12) 191 (by decide) (fm_dec dtX1_outcome 7 rfl) (fun hc12 => by exfalso; rw [ks] at hc12; exact absurd hc12 (by decide)) (fun _ => ?_)
  refine fm_iload (pc := 15) (i := 6) rfl (fm_dec dtX1_outcome 8 rfl) ?_
  refine fm_bipush (pc := 17) (v := 24) (by decide) (fm_dec dtX1_outcome 9 rfl) ?_
  refine fm_icmp_ge (pc := 19) 191 (by decide) (fm_dec dtX1_outcome 10 rfl) (fun hc19 => by exfalso; exact absurd hc19 (by decide)) (fun _ => ?_)
  refine fm_aloadn (pc := 22) (n := 0) 0 rfl rfl (fm_dec dtX1_outcome 11 rfl) ?_
  refine fm_getR (k := 23) (j := 0) (ci := 1) (pc := 23) 24 rfl fl_X1_9 (by decide) rfl (by decide) (by decide) (fm_dec dtX1_outcome 12 rfl) ?_
  refine fm_iload (pc := 26) (i := 7) rfl (fm_dec dtX1_outcome 13 rfl) ?_
  refine fm_iald (k := 24) (n := 150) (pc := 28) (by decide) rfl rfl (fm_inl (by decide)) (fm_dec dtX1_outcome 14 rfl) ?_
  refine fm_topE (v := -1) (by exact k0) ?_
  refine fm_istore (pc := 29) (i := 8) (by decide) rfl (fm_dec dtX1_outcome 15 rfl) ?_
  dsimp only [List.set_cons_zero, List.set_cons_succ]
  refine fm_iload (pc := 31) (i := 8) rfl (fm_dec dtX1_outcome 16 rfl) ?_
  refine fm_bipush (pc := 33) (v := (-6)) (by decide) (fm_dec dtX1_outcome 17 rfl) ?_
  refine fm_icmp_gt (pc := 35) 80 (by decide) (fm_dec dtX1_outcome 18 rfl) (fun _ => ?_) (fun hc35 => by exfalso; exact hc35 (by decide))
  refine fm_iload (pc := 80) (i := 8) rfl (fm_dec dtX1_outcome 42 rfl) ?_
  refine fm_table (pc := 82) 116 (by decide) rfl (fm_dec dtX1_outcome 43 rfl) ?_
  refine fm_aloadn (pc := 116) (n := 0) 0 rfl rfl (fm_dec dtX1_outcome 44 rfl) ?_
  refine fm_getR (k := 23) (j := 2) (ci := 1) (pc := 117) 26 rfl fl_X1_18 (by decide) rfl (by decide) (by decide) (fm_dec dtX1_outcome 45 rfl) ?_
  refine fm_iload (pc := 120) (i := 6) rfl (fm_dec dtX1_outcome 46 rfl) ?_
  refine fm_iloadn (pc := 122) (n := 1) 1 rfl rfl (fm_dec dtX1_outcome 47 rfl) ?_
  refine fm_iast (k := 26) (n := 24) (pc := 123) (by decide) rfl rfl (fm_inl (by decide)) (fm_dec dtX1_outcome 48 rfl) ?_
  refine fm_goto (pc := 124) 182 (by decide) (fm_dec dtX1_outcome 49 rfl) ?_
  refine fm_iincc (pc := 182) 6 1 (by decide) rfl (by decide) rfl (fm_dec dtX1_outcome 79 rfl) ?_
  dsimp only [List.set_cons_zero, List.set_cons_succ]
  refine fm_iincc (pc := 185) 7 1 (by decide) rfl (by decide) rfl (fm_dec dtX1_outcome 80 rfl) ?_
  dsimp only [List.set_cons_zero, List.set_cons_succ]
  refine fm_goto (pc := 188) 6 (by decide) (fm_dec dtX1_outcome 81 rfl) ?_
  refine fm_iload (pc := 6) (i := 7) rfl (fm_dec dtX1_outcome 4 rfl) ?_
  refine fm_aloadn (pc := 8) (n := 0) 0 rfl rfl (fm_dec dtX1_outcome 5 rfl) ?_
  refine fm_getI (k := 23) (j := 3) (ci := 1) (pc := 9) fl_X1_24 (by decide) rfl (by decide) rfl (fm_dec dtX1_outcome 6 rfl) ?_
  refine fm_icmp_ge (pc := 12) 191 (by decide) (fm_dec dtX1_outcome 7 rfl) (fun hc12 => by exfalso; rw [fmI_k _ _ (by decide), ks] at hc12; exact absurd hc12 (by decide)) (fun _ => ?_)
  refine fm_iload (pc := 15) (i := 6) rfl (fm_dec dtX1_outcome 8 rfl) ?_
  refine fm_bipush (pc := 17) (v := 24) (by decide) (fm_dec dtX1_outcome 9 rfl) ?_
  refine fm_icmp_ge (pc := 19) 191 (by decide) (fm_dec dtX1_outcome 10 rfl) (fun hc19 => by exfalso; exact absurd hc19 (by decide)) (fun _ => ?_)
  refine fm_aloadn (pc := 22) (n := 0) 0 rfl rfl (fm_dec dtX1_outcome 11 rfl) ?_
  refine fm_getR (k := 23) (j := 0) (ci := 1) (pc := 23) 24 rfl fl_X1_9 (by decide) rfl (by decide) (by decide) (fm_dec dtX1_outcome 12 rfl) ?_
  refine fm_iload (pc := 26) (i := 7) rfl (fm_dec dtX1_outcome 13 rfl) ?_
  refine fm_iald (k := 24) (n := 150) (pc := 28) (by decide) rfl rfl (fm_inl (by decide)) (fm_dec dtX1_outcome 14 rfl) ?_
  refine fm_topE (v := -1) (by rw [fmI_k _ _ (by decide)]; exact k1) ?_
  refine fm_istore (pc := 29) (i := 8) (by decide) rfl (fm_dec dtX1_outcome 15 rfl) ?_
  dsimp only [List.set_cons_zero, List.set_cons_succ]
  refine fm_iload (pc := 31) (i := 8) rfl (fm_dec dtX1_outcome 16 rfl) ?_
  refine fm_bipush (pc := 33) (v := (-6)) (by decide) (fm_dec dtX1_outcome 17 rfl) ?_
  refine fm_icmp_gt (pc := 35) 80 (by decide) (fm_dec dtX1_outcome 18 rfl) (fun _ => ?_) (fun hc35 => by exfalso; exact hc35 (by decide))
  refine fm_iload (pc := 80) (i := 8) rfl (fm_dec dtX1_outcome 42 rfl) ?_
  refine fm_table (pc := 82) 116 (by decide) rfl (fm_dec dtX1_outcome 43 rfl) ?_
  refine fm_aloadn (pc := 116) (n := 0) 0 rfl rfl (fm_dec dtX1_outcome 44 rfl) ?_
  refine fm_getR (k := 23) (j := 2) (ci := 1) (pc := 117) 26 rfl fl_X1_18 (by decide) rfl (by decide) (by decide) (fm_dec dtX1_outcome 45 rfl) ?_
  refine fm_iload (pc := 120) (i := 6) rfl (fm_dec dtX1_outcome 46 rfl) ?_
  refine fm_iloadn (pc := 122) (n := 1) 1 rfl rfl (fm_dec dtX1_outcome 47 rfl) ?_
  refine fm_iast (k := 26) (n := 24) (pc := 123) (by decide) rfl rfl (fm_inl (by decide)) (fm_dec dtX1_outcome 48 rfl) ?_
  refine fm_goto (pc := 124) 182 (by decide) (fm_dec dtX1_outcome 49 rfl) ?_
  refine fm_iincc (pc := 182) 6 1 (by decide) rfl (by decide) rfl (fm_dec dtX1_outcome 79 rfl) ?_
  dsimp only [List.set_cons_zero, List.set_cons_succ]
  refine fm_iincc (pc := 185) 7 1 (by decide) rfl (by decide) rfl (fm_dec dtX1_outcome 80 rfl) ?_
  dsimp only [List.set_cons_zero, List.set_cons_succ]
  refine fm_goto (pc := 188) 6 (by decide) (fm_dec dtX1_outcome 81 rfl) ?_
  refine fm_iload (pc := 6) (i := 7) rfl (fm_dec dtX1_outcome 4 rfl) ?_
  refine fm_aloadn (pc := 8) (n := 0) 0 rfl rfl (fm_dec dtX1_outcome 5 rfl) ?_
  refine fm_getI (k := 23) (j := 3) (ci := 1) (pc := 9) fl_X1_24 (by decide) rfl (by decide) rfl (fm_dec dtX1_outcome 6 rfl) ?_
  refine fm_icmp_ge (pc := 12) 191 (by decide) (fm_dec dtX1_outcome 7 rfl) (fun hc12 => by exfalso; rw [fmI_k _ _ (by decide), fmI_k _ _ (by decide), ks] at hc12; exact absurd hc12 (by decide)) (fun _ => ?_)
  refine fm_iload (pc := 15) (i := 6) rfl (fm_dec dtX1_outcome 8 rfl) ?_
  refine fm_bipush (pc := 17) (v := 24) (by decide) (fm_dec dtX1_outcome 9 rfl) ?_
  refine fm_icmp_ge (pc := 19) 191 (by decide) (fm_dec dtX1_outcome 10 rfl) (fun hc19 => by exfalso; exact absurd hc19 (by decide)) (fun _ => ?_)
  refine fm_aloadn (pc := 22) (n := 0) 0 rfl rfl (fm_dec dtX1_outcome 11 rfl) ?_
  refine fm_getR (k := 23) (j := 0) (ci := 1) (pc := 23) 24 rfl fl_X1_9 (by decide) rfl (by decide) (by decide) (fm_dec dtX1_outcome 12 rfl) ?_
  refine fm_iload (pc := 26) (i := 7) rfl (fm_dec dtX1_outcome 13 rfl) ?_
  refine fm_iald (k := 24) (n := 150) (pc := 28) (by decide) rfl rfl (fm_inl (by decide)) (fm_dec dtX1_outcome 14 rfl) ?_
  refine fm_topE (v := -8) (by rw [fmI_k _ _ (by decide)]; rw [fmI_k _ _ (by decide)]; exact k2) ?_
  refine fm_istore (pc := 29) (i := 8) (by decide) rfl (fm_dec dtX1_outcome 15 rfl) ?_
  dsimp only [List.set_cons_zero, List.set_cons_succ]
  refine fm_iload (pc := 31) (i := 8) rfl (fm_dec dtX1_outcome 16 rfl) ?_
  refine fm_bipush (pc := 33) (v := (-6)) (by decide) (fm_dec dtX1_outcome 17 rfl) ?_
  refine fm_icmp_gt (pc := 35) 80 (by decide) (fm_dec dtX1_outcome 18 rfl) (fun hc35 => by exfalso; exact absurd hc35 (by decide)) (fun _ => ?_)
  refine fm_iload (pc := 38) (i := 6) rfl (fm_dec dtX1_outcome 19 rfl) ?_
  refine fm_iconst (pc := 40) (v := 2) (by decide) (fm_dec dtX1_outcome 20 rfl) ?_
  refine fm_icmp_lt (pc := 41) 80 (by decide) (fm_dec dtX1_outcome 21 rfl) (fun hc41 => by exfalso; exact absurd hc41 (by decide)) (fun _ => ?_)
  refine fm_iincc (pc := 44) 6 (-1) (by decide) rfl (by decide) rfl (fm_dec dtX1_outcome 22 rfl) ?_
  dsimp only [List.set_cons_zero, List.set_cons_succ]
  refine fm_aloadn (pc := 47) (n := 0) 0 rfl rfl (fm_dec dtX1_outcome 23 rfl) ?_
  refine fm_getR (k := 23) (j := 2) (ci := 1) (pc := 48) 26 rfl fl_X1_18 (by decide) rfl (by decide) (by decide) (fm_dec dtX1_outcome 24 rfl) ?_
  refine fm_iload (pc := 51) (i := 6) rfl (fm_dec dtX1_outcome 25 rfl) ?_
  refine fm_iconst (pc := 53) (v := 1) (by decide) (fm_dec dtX1_outcome 26 rfl) ?_
  refine fm_isub (pc := 54) (fm_dec dtX1_outcome 27 rfl) ?_
  refine fm_iload (pc := 55) (i := 8) rfl (fm_dec dtX1_outcome 28 rfl) ?_
  refine fm_aloadn (pc := 57) (n := 0) 0 rfl rfl (fm_dec dtX1_outcome 29 rfl) ?_
  refine fm_getR (k := 23) (j := 2) (ci := 1) (pc := 58) 26 rfl fl_X1_18 (by decide) rfl (by decide) (by decide) (fm_dec dtX1_outcome 30 rfl) ?_
  refine fm_iload (pc := 61) (i := 6) rfl (fm_dec dtX1_outcome 31 rfl) ?_
  refine fm_iconst (pc := 63) (v := 1) (by decide) (fm_dec dtX1_outcome 32 rfl) ?_
  refine fm_isub (pc := 64) (fm_dec dtX1_outcome 33 rfl) ?_
  refine fm_iald (k := 26) (n := 24) (pc := 65) (by decide) rfl rfl (fm_inl (by decide)) (fm_dec dtX1_outcome 34 rfl) ?_
  refine fm_aloadn (pc := 66) (n := 0) 0 rfl rfl (fm_dec dtX1_outcome 35 rfl) ?_
  refine fm_getR (k := 23) (j := 2) (ci := 1) (pc := 67) 26 rfl fl_X1_18 (by decide) rfl (by decide) (by decide) (fm_dec dtX1_outcome 36 rfl) ?_
  refine fm_iload (pc := 70) (i := 6) rfl (fm_dec dtX1_outcome 37 rfl) ?_
  refine fm_iald (k := 26) (n := 24) (pc := 72) (by decide) rfl rfl (fm_inl (by decide)) (fm_dec dtX1_outcome 38 rfl) ?_
  refine fm_stE (st' := [.int a, .int a, .int (-8), .int 0, .ref (G.1 26)]) rfl ?_
  refine fm_invS3 (d' := 0) (pc := 73) cs_X1_85 (Nat.le_of_ble_eq_true rfl) (by decide) (fm_dec dtX1_outcome 39 rfl) ?_
  refine c_plus hst _ _ ?_
  refine fm_then1 ?_
  refine fm_iast (k := 26) (n := 24) (pc := 76) (by decide) rfl rfl (fm_inl (by decide)) (fm_dec dtX1_outcome 40 rfl) ?_
  refine fm_goto (pc := 77) 185 (by decide) (fm_dec dtX1_outcome 41 rfl) ?_
  refine fm_iincc (pc := 185) 7 1 (by decide) rfl (by decide) rfl (fm_dec dtX1_outcome 80 rfl) ?_
  dsimp only [List.set_cons_zero, List.set_cons_succ]
  refine fm_goto (pc := 188) 6 (by decide) (fm_dec dtX1_outcome 81 rfl) ?_
  refine fm_iload (pc := 6) (i := 7) rfl (fm_dec dtX1_outcome 4 rfl) ?_
  refine fm_aloadn (pc := 8) (n := 0) 0 rfl rfl (fm_dec dtX1_outcome 5 rfl) ?_
  refine fm_getI (k := 23) (j := 3) (ci := 1) (pc := 9) fl_X1_24 (by decide) rfl (by decide) rfl (fm_dec dtX1_outcome 6 rfl) ?_
  refine fm_icmp_ge (pc := 12) 191 (by decide) (fm_dec dtX1_outcome 7 rfl) (fun _ => ?_) (fun hc12 => by exfalso; exact hc12 (by rw [fmI_k _ _ (by decide), fmI_k _ _ (by decide), fmI_k _ _ (by decide), ks]; decide))
  refine fm_iconst (pc := 191) (v := 0) (by decide) (fm_dec dtX1_outcome 82 rfl) ?_
  refine fm_bipush (pc := 192) (v := 64) (by decide) (fm_dec dtX1_outcome 83 rfl) ?_
  refine fm_aloadn (pc := 194) (n := 0) 0 rfl rfl (fm_dec dtX1_outcome 84 rfl) ?_
  refine fm_getR (k := 23) (j := 2) (ci := 1) (pc := 195) 26 rfl fl_X1_18 (by decide) rfl (by decide) (by decide) (fm_dec dtX1_outcome 85 rfl) ?_
  refine fm_iconst (pc := 198) (v := 0) (by decide) (fm_dec dtX1_outcome 86 rfl) ?_
  refine fm_iald (k := 26) (n := 24) (pc := 199) (by decide) rfl rfl (fm_inl (by decide)) (fm_dec dtX1_outcome 87 rfl) ?_
  refine fm_topE (v := a + a) (by simp [fmI, upd]) ?_
  refine fm_mmin (pc := 200) cs_X1_89 (Nat.le_of_ble_eq_true rfl) (fm_dec dtX1_outcome 88 rfl) ?_
  refine fm_mmax (pc := 203) cs_X1_94 (Nat.le_of_ble_eq_true rfl) (fm_dec dtX1_outcome 89 rfl) ?_
  exact fm_ireturn (pc := 206) rfl (fm_dec dtX1_outcome 90 rfl) (hq _)

set_option maxRecDepth 20000 in
theorem x_would {l : Launch} {G : fmG} {M : fmM} {Q : fmR → fmM → Prop} (hst : l.stackTraces = false) (a b c d e : Int32) (ks : M.1 23 3 = 3) (k0 : M.1 24 0 = -1) (k1 : M.1 24 1 = -1) (k2 : M.1 24 2 = -8) (hq : ∀ M', (inR a 0 200 ∧ inR b 0 200 ∧ inR c 1 99 ∧ inR d 0 1 ∧ inR e 0 24) → Q (.inl (some (.int (if 0 < (if a + a < 64 then a + a else 64) then (if a + a < 64 then a + a else 64) else 0)))) M') (hx : ∀ M', ¬ (inR a 0 200 ∧ inR b 0 200 ∧ inR c 1 99 ∧ inR d 0 1 ∧ inR e 0 24) → Q (.inr fmIAE) M') : fmGood Tx l G 2 qX10_would [.ref (G.1 0), .int a, .int b, .int c, .int d, .int e] M Q := by
  refine fmGood_of hst (by decide +kernel) (Nat.le_of_ble_eq_true rfl) ?_
  show fmEv Tx l G 2 qX10_would 0 [some (.ref (G.1 0)), some (.int a), some (.int b), some (.int c), some (.int d), some (.int e)] [] M Q
  refine fm_aloadn (pc := 0) (n := 0) 0 rfl rfl (fm_dec dtX10_would 0 rfl) ?_
  refine fm_iloadn (pc := 1) (n := 1) 1 rfl rfl (fm_dec dtX10_would 1 rfl) ?_
  refine fm_iconst (pc := 2) (v := 0) (by decide) (fm_dec dtX10_would 2 rfl) ?_
  refine fm_sipush (pc := 3) (v := 200) (by decide) (fm_dec dtX10_would 3 rfl) ?_
  refine fm_invV3 (k := 0) (d' := 0) (pc := 6) cv_X10_169 (by decide) rfl (Nat.le_of_ble_eq_true rfl) (by decide) (fm_dec dtX10_would 4 rfl) ?_
  refine c_needWithin hst _ _ _ (fun hi6 => ?_) (fun hx6 => ?_)
  · refine fm_then0 ?_
    refine fm_aloadn (pc := 9) (n := 0) 0 rfl rfl (fm_dec dtX10_would 5 rfl) ?_
    refine fm_iloadn (pc := 10) (n := 2) 2 rfl rfl (fm_dec dtX10_would 6 rfl) ?_
    refine fm_iconst (pc := 11) (v := 0) (by decide) (fm_dec dtX10_would 7 rfl) ?_
    refine fm_sipush (pc := 12) (v := 200) (by decide) (fm_dec dtX10_would 8 rfl) ?_
    refine fm_invV3 (k := 0) (d' := 0) (pc := 15) cv_X10_169 (by decide) rfl (Nat.le_of_ble_eq_true rfl) (by decide) (fm_dec dtX10_would 9 rfl) ?_
    refine c_needWithin hst _ _ _ (fun hi15 => ?_) (fun hx15 => ?_)
    · refine fm_then0 ?_
      refine fm_aloadn (pc := 18) (n := 0) 0 rfl rfl (fm_dec dtX10_would 10 rfl) ?_
      refine fm_iloadn (pc := 19) (n := 3) 3 rfl rfl (fm_dec dtX10_would 11 rfl) ?_
      refine fm_iconst (pc := 20) (v := 1) (by decide) (fm_dec dtX10_would 12 rfl) ?_
      refine fm_bipush (pc := 21) (v := 99) (by decide) (fm_dec dtX10_would 13 rfl) ?_
      refine fm_invV3 (k := 0) (d' := 0) (pc := 23) cv_X10_169 (by decide) rfl (Nat.le_of_ble_eq_true rfl) (by decide) (fm_dec dtX10_would 14 rfl) ?_
      refine c_needWithin hst _ _ _ (fun hi23 => ?_) (fun hx23 => ?_)
      · refine fm_then0 ?_
        refine fm_aloadn (pc := 26) (n := 0) 0 rfl rfl (fm_dec dtX10_would 15 rfl) ?_
        refine fm_iload (pc := 27) (i := 4) rfl (fm_dec dtX10_would 16 rfl) ?_
        refine fm_iconst (pc := 29) (v := 0) (by decide) (fm_dec dtX10_would 17 rfl) ?_
        refine fm_iconst (pc := 30) (v := 1) (by decide) (fm_dec dtX10_would 18 rfl) ?_
        refine fm_invV3 (k := 0) (d' := 0) (pc := 31) cv_X10_169 (by decide) rfl (Nat.le_of_ble_eq_true rfl) (by decide) (fm_dec dtX10_would 19 rfl) ?_
        refine c_needWithin hst _ _ _ (fun hi31 => ?_) (fun hx31 => ?_)
        · refine fm_then0 ?_
          refine fm_aloadn (pc := 34) (n := 0) 0 rfl rfl (fm_dec dtX10_would 20 rfl) ?_
          refine fm_iload (pc := 35) (i := 5) rfl (fm_dec dtX10_would 21 rfl) ?_
          refine fm_iconst (pc := 37) (v := 0) (by decide) (fm_dec dtX10_would 22 rfl) ?_
          refine fm_bipush (pc := 38) (v := 24) (by decide) (fm_dec dtX10_would 23 rfl) ?_
          refine fm_invV3 (k := 0) (d' := 0) (pc := 40) cv_X10_169 (by decide) rfl (Nat.le_of_ble_eq_true rfl) (by decide) (fm_dec dtX10_would 24 rfl) ?_
          refine c_needWithin hst _ _ _ (fun hi40 => ?_) (fun hx40 => ?_)
          · refine fm_then0 ?_
            refine fm_aloadn (pc := 43) (n := 0) 0 rfl rfl (fm_dec dtX10_would 25 rfl) ?_
            refine fm_getR (k := 0) (j := 3) (ci := 10) (pc := 44) 23 rfl fl_X10_29 (by decide) rfl (by decide) (by decide) (fm_dec dtX10_would 26 rfl) ?_
            refine fm_iloadn (pc := 47) (n := 1) 1 rfl rfl (fm_dec dtX10_would 27 rfl) ?_
            refine fm_iloadn (pc := 48) (n := 2) 2 rfl rfl (fm_dec dtX10_would 28 rfl) ?_
            refine fm_iloadn (pc := 49) (n := 3) 3 rfl rfl (fm_dec dtX10_would 29 rfl) ?_
            refine fm_iload (pc := 50) (i := 4) rfl (fm_dec dtX10_would 30 rfl) ?_
            refine fm_iload (pc := 52) (i := 5) rfl (fm_dec dtX10_would 31 rfl) ?_
            refine fm_invV5 (k := 23) (d' := 1) (pc := 54) cv_X10_233 (by decide) rfl (Nat.le_of_ble_eq_true rfl) (by decide) (fm_dec dtX10_would 32 rfl) ?_
            refine c_outcome0 hst _ _ _ _ _ ks k0 k1 k2 (fun _ => ?_)
            refine fm_then1 ?_
            exact fm_ireturn (pc := 57) rfl (fm_dec dtX10_would 33 rfl) (hq _ ⟨hi6, hi15, hi23, hi31, hi40⟩)
          · refine fm_thenX ?_
            exact hx _ (fun h => by first | exact hx40 h.1 | exact hx40 h.2.1 | exact hx40 h.2.2.1 | exact hx40 h.2.2.2.1 | exact hx40 h.2.2.2.2)
        · refine fm_thenX ?_
          exact hx _ (fun h => by first | exact hx31 h.1 | exact hx31 h.2.1 | exact hx31 h.2.2.1 | exact hx31 h.2.2.2.1 | exact hx31 h.2.2.2.2)
      · refine fm_thenX ?_
        exact hx _ (fun h => by first | exact hx23 h.1 | exact hx23 h.2.1 | exact hx23 h.2.2.1 | exact hx23 h.2.2.2.1 | exact hx23 h.2.2.2.2)
    · refine fm_thenX ?_
      exact hx _ (fun h => by first | exact hx15 h.1 | exact hx15 h.2.1 | exact hx15 h.2.2.1 | exact hx15 h.2.2.2.1 | exact hx15 h.2.2.2.2)
  · refine fm_thenX ?_
    exact hx _ (fun h => by first | exact hx6 h.1 | exact hx6 h.2.1 | exact hx6 h.2.2.1 | exact hx6 h.2.2.2.1 | exact hx6 h.2.2.2.2)

set_option maxRecDepth 20000 in
theorem fillJ_loop {l : Launch} {G : fmG} {Q : fmR → fmM → Prop} (hst : l.stackTraces = false)  : ∀ (n : Nat) (M : fmM) (i : Nat), i + n = 2197 → (∀ j, j < i → M.2 35 j = 0) → (∀ M', (∀ j, j < 2197 → M'.2 35 j = 0) → M'.1 = M.1 → (∀ k, k ≠ 35 → M'.2 k = M.2 k) → Q (.inl none) M') → fmEv Tx l G 0 qJ7_fill_d0a16 6 [some (.ref (G.1 35)), some (.long 0), none, some (.int (nI i)), some (.int 2197)] [] M Q := by
  intro n
  induction n with
  | zero =>
    intro M i hi h0 hq
    have e : i = 2197 := by omega
    subst e
    refine fm_iloadn (pc := 6) (n := 3) 3 rfl rfl (fm_dec dtJ7_fill_d0a16 5 rfl) ?_
    refine fm_iload (pc := 7) (i := 4) rfl (fm_dec dtJ7_fill_d0a16 6 rfl) ?_
    refine fm_icmp_ge (pc := 9) 22 (by decide) (fm_dec dtJ7_fill_d0a16 7 rfl) (fun _ => ?_) (fun hc9 => by exfalso; exact hc9 (by decide))
    exact fm_return (pc := 22) rfl (fm_dec dtJ7_fill_d0a16 14 rfl) (hq M h0 rfl (fun _ _ => rfl))
  | succ n ih =>
    intro M i hi h0 hq
    refine fm_iloadn (pc := 6) (n := 3) 3 rfl rfl (fm_dec dtJ7_fill_d0a16 5 rfl) ?_
    refine fm_iload (pc := 7) (i := 4) rfl (fm_dec dtJ7_fill_d0a16 6 rfl) ?_
    refine fm_icmp_ge (pc := 9) 22 (by decide) (fm_dec dtJ7_fill_d0a16 7 rfl) (fun hc9 => by exfalso; rw [show (2197 : Int32) = nI 2197 by decide] at hc9; exact nI_ge (show i < 2197 by omega) (by decide) hc9) (fun _ => ?_)
    refine fm_aloadn (pc := 12) (n := 0) 0 rfl rfl (fm_dec dtJ7_fill_d0a16 8 rfl) ?_
    refine fm_iloadn (pc := 13) (n := 3) 3 rfl rfl (fm_dec dtJ7_fill_d0a16 9 rfl) ?_
    refine fm_lloadn (pc := 14) (n := 1) 1 rfl rfl (fm_dec dtJ7_fill_d0a16 10 rfl) ?_
    refine fm_last (k := 35) (n := 2197) (pc := 15) (by decide) rfl rfl (vp_in_nI (by omega) (by decide)) (fm_dec dtJ7_fill_d0a16 11 rfl) ?_
    refine fm_iincc (pc := 16) 3 1 (by decide) rfl (by decide) rfl (fm_dec dtJ7_fill_d0a16 12 rfl) ?_
    dsimp only [List.set_cons_zero, List.set_cons_succ]
    refine fm_goto (pc := 19) 6 (by decide) (fm_dec dtJ7_fill_d0a16 13 rfl) ?_
    rw [show nI i + 1 = nI (i + 1) from nI_1 i, nI_clamp (show i < 2 ^ 31 by omega)]
    refine ih _ (i + 1) (by omega) (fun j hj => ?_) (fun M1 e1 e2 e3 => hq M1 e1 (by rw [e2]; rfl) (fun k hk => by rw [e3 k hk]; simp [fmJ, hk]))
    by_cases e : j = i
    · subst e; exact fmJ_s _ _ _ _
    · rw [fmJ_j _ _ e]; exact h0 j (by omega)

set_option maxRecDepth 20000 in
theorem c_fillJ {l : Launch} {G : fmG} {M : fmM} {Q : fmR → fmM → Prop} (hst : l.stackTraces = false)  (hq : ∀ M', (∀ j, j < 2197 → M'.2 35 j = 0) → M'.1 = M.1 → (∀ k, k ≠ 35 → M'.2 k = M.2 k) → Q (.inl none) M') : fmGood Tx l G 0 qJ7_fill_d0a16 [.ref (G.1 35), .long 0] M Q := by
  refine fmGood_of hst (by decide +kernel) (Nat.le_of_ble_eq_true rfl) ?_
  show fmEv Tx l G 0 qJ7_fill_d0a16 0 [some (.ref (G.1 35)), some (.long 0), none, none, none] [] M Q
  refine fm_iconst (pc := 0) (v := 0) (by decide) (fm_dec dtJ7_fill_d0a16 0 rfl) ?_
  refine fm_istoren (pc := 1) (n := 3) 3 rfl (by decide) rfl (fm_dec dtJ7_fill_d0a16 1 rfl) ?_
  dsimp only [List.set_cons_zero, List.set_cons_succ]
  refine fm_aloadn (pc := 2) (n := 0) 0 rfl rfl (fm_dec dtJ7_fill_d0a16 2 rfl) ?_
  refine fm_alenJ (k := 35) (n := 2197) (v := 2197) (pc := 3) (by decide) rfl rfl (by decide) (fm_dec dtJ7_fill_d0a16 3 rfl) ?_
  refine fm_istore (pc := 4) (i := 4) (by decide) rfl (fm_dec dtJ7_fill_d0a16 4 rfl) ?_
  dsimp only [List.set_cons_zero, List.set_cons_succ]
  exact fillJ_loop hst 2197 M 0 (by omega) (fun j hj => absurd hj (by omega)) hq

set_option maxRecDepth 20000 in
theorem fillI_loop {l : Launch} {G : fmG} {Q : fmR → fmM → Prop} (hst : l.stackTraces = false)  : ∀ (n : Nat) (M : fmM) (i : Nat), i + n = 201 → (∀ j, j < i → M.1 45 j = 0) → (∀ M', (∀ j, j < 201 → M'.1 45 j = 0) → (∀ k, k ≠ 45 → M'.1 k = M.1 k) → Q (.inl none) M') → fmEv Tx l G 0 qJ7_fill_53178 5 [some (.ref (G.1 45)), some (.int 0), some (.int (nI i)), some (.int 201)] [] M Q := by
  intro n
  induction n with
  | zero =>
    intro M i hi h0 hq
    have e : i = 201 := by omega
    subst e
    refine fm_iloadn (pc := 5) (n := 2) 2 rfl rfl (fm_dec dtJ7_fill_53178 5 rfl) ?_
    refine fm_iloadn (pc := 6) (n := 3) 3 rfl rfl (fm_dec dtJ7_fill_53178 6 rfl) ?_
    refine fm_icmp_ge (pc := 7) 20 (by decide) (fm_dec dtJ7_fill_53178 7 rfl) (fun _ => ?_) (fun hc7 => by exfalso; exact hc7 (by decide))
    exact fm_return (pc := 20) rfl (fm_dec dtJ7_fill_53178 14 rfl) (hq M h0 (fun _ _ => rfl))
  | succ n ih =>
    intro M i hi h0 hq
    refine fm_iloadn (pc := 5) (n := 2) 2 rfl rfl (fm_dec dtJ7_fill_53178 5 rfl) ?_
    refine fm_iloadn (pc := 6) (n := 3) 3 rfl rfl (fm_dec dtJ7_fill_53178 6 rfl) ?_
    refine fm_icmp_ge (pc := 7) 20 (by decide) (fm_dec dtJ7_fill_53178 7 rfl) (fun hc7 => by exfalso; rw [show (201 : Int32) = nI 201 by decide] at hc7; exact nI_ge (show i < 201 by omega) (by decide) hc7) (fun _ => ?_)
    refine fm_aloadn (pc := 10) (n := 0) 0 rfl rfl (fm_dec dtJ7_fill_53178 8 rfl) ?_
    refine fm_iloadn (pc := 11) (n := 2) 2 rfl rfl (fm_dec dtJ7_fill_53178 9 rfl) ?_
    refine fm_iloadn (pc := 12) (n := 1) 1 rfl rfl (fm_dec dtJ7_fill_53178 10 rfl) ?_
    refine fm_iast (k := 45) (n := 201) (pc := 13) (by decide) rfl rfl (vp_in_nI (by omega) (by decide)) (fm_dec dtJ7_fill_53178 11 rfl) ?_
    refine fm_iincc (pc := 14) 2 1 (by decide) rfl (by decide) rfl (fm_dec dtJ7_fill_53178 12 rfl) ?_
    dsimp only [List.set_cons_zero, List.set_cons_succ]
    refine fm_goto (pc := 17) 5 (by decide) (fm_dec dtJ7_fill_53178 13 rfl) ?_
    rw [show nI i + 1 = nI (i + 1) from nI_1 i, nI_clamp (show i < 2 ^ 31 by omega)]
    refine ih _ (i + 1) (by omega) (fun j hj => ?_) (fun M1 e1 e2 => hq M1 e1 (fun k hk => by rw [e2 k hk]; simp [fmI, hk]))
    by_cases e : j = i
    · subst e; exact fmI_s _ _ _ _
    · rw [fmI_j _ _ e]; exact h0 j (by omega)

set_option maxRecDepth 20000 in
theorem c_fillI {l : Launch} {G : fmG} {M : fmM} {Q : fmR → fmM → Prop} (hst : l.stackTraces = false)  (hq : ∀ M', (∀ j, j < 201 → M'.1 45 j = 0) → (∀ k, k ≠ 45 → M'.1 k = M.1 k) → Q (.inl none) M') : fmGood Tx l G 0 qJ7_fill_53178 [.ref (G.1 45), .int 0] M Q := by
  refine fmGood_of hst (by decide +kernel) (Nat.le_of_ble_eq_true rfl) ?_
  show fmEv Tx l G 0 qJ7_fill_53178 0 [some (.ref (G.1 45)), some (.int 0), none, none] [] M Q
  refine fm_iconst (pc := 0) (v := 0) (by decide) (fm_dec dtJ7_fill_53178 0 rfl) ?_
  refine fm_istoren (pc := 1) (n := 2) 2 rfl (by decide) rfl (fm_dec dtJ7_fill_53178 1 rfl) ?_
  dsimp only [List.set_cons_zero, List.set_cons_succ]
  refine fm_aloadn (pc := 2) (n := 0) 0 rfl rfl (fm_dec dtJ7_fill_53178 2 rfl) ?_
  refine fm_alenI (k := 45) (n := 201) (v := 201) (pc := 3) (by decide) rfl rfl (by decide) (fm_dec dtJ7_fill_53178 3 rfl) ?_
  refine fm_istoren (pc := 4) (n := 3) 3 rfl (by decide) rfl (fm_dec dtJ7_fill_53178 4 rfl) ?_
  dsimp only [List.set_cons_zero, List.set_cons_succ]
  exact fillI_loop hst 201 M 0 (by omega) (fun j hj => absurd hj (by omega)) hq

set_option maxRecDepth 20000 in
theorem c_fillRoom0 {l : Launch} {G : fmG} {M : fmM} {Q : fmR → fmM → Prop} (hst : l.stackTraces = false) (b r : Int32) (hl : M.1 3 9 = 0) (hr : inR r 0 200) (hq : ∀ M', Q (.inl (some (.int 0))) M') : fmGood Tx l G 2 qX10_fillRoom [.ref (G.1 0), .int b, .int r] M Q := by
  refine fmGood_of hst (by decide +kernel) (Nat.le_of_ble_eq_true rfl) ?_
  show fmEv Tx l G 2 qX10_fillRoom 0 [some (.ref (G.1 0)), some (.int b), some (.int r), none] [] M Q
  refine fm_aloadn (pc := 0) (n := 0) 0 rfl rfl (fm_dec dtX10_fillRoom 0 rfl) ?_
  refine fm_getR (k := 0) (j := 12) (ci := 10) (pc := 1) 45 rfl fl_X10_87 (by decide) rfl (by decide) (by decide) (fm_dec dtX10_fillRoom 1 rfl) ?_
  refine fm_iconst (pc := 4) (v := 0) (by decide) (fm_dec dtX10_fillRoom 2 rfl) ?_
  refine fm_invS2 (d' := 0) (pc := 5) cs_X10_384 (Nat.le_of_ble_eq_true rfl) (by decide) (fm_dec dtX10_fillRoom 3 rfl) ?_
  refine c_fillI hst (fun M5 z5 f5 => ?_)
  refine fm_then0 ?_
  refine fm_iconst (pc := 8) (v := 0) (by decide) (fm_dec dtX10_fillRoom 4 rfl) ?_
  refine fm_istoren (pc := 9) (n := 3) 3 rfl (by decide) rfl (fm_dec dtX10_fillRoom 5 rfl) ?_
  dsimp only [List.set_cons_zero, List.set_cons_succ]
  refine fm_iloadn (pc := 10) (n := 3) 3 rfl rfl (fm_dec dtX10_fillRoom 6 rfl) ?_
  refine fm_aloadn (pc := 11) (n := 0) 0 rfl rfl (fm_dec dtX10_fillRoom 7 rfl) ?_
  refine fm_getR (k := 0) (j := 1) (ci := 10) (pc := 12) 3 rfl fl_X10_19 (by decide) rfl (by decide) (by decide) (fm_dec dtX10_fillRoom 8 rfl) ?_
  refine fm_getI (k := 3) (j := 9) (ci := 8) (pc := 15) fl_X10_138 (by decide) rfl (by decide) rfl (fm_dec dtX10_fillRoom 9 rfl) ?_
  refine fm_icmp_ge (pc := 18) 41 (by decide) (fm_dec dtX10_fillRoom 10 rfl) (fun _ => ?_) (fun hc18 => by exfalso; exact hc18 (by rw [f5 3 (by decide), hl]; decide))
  refine fm_iloadn (pc := 41) (n := 2) 2 rfl rfl (fm_dec dtX10_fillRoom 23 rfl) ?_
  refine fm_if_lt (pc := 42) 63 (by decide) (fm_dec dtX10_fillRoom 24 rfl) (fun hc42 => by exfalso; exact hr.1 hc42) (fun _ => ?_)
  refine fm_iloadn (pc := 45) (n := 2) 2 rfl rfl (fm_dec dtX10_fillRoom 25 rfl) ?_
  refine fm_aloadn (pc := 46) (n := 0) 0 rfl rfl (fm_dec dtX10_fillRoom 26 rfl) ?_
  refine fm_getR (k := 0) (j := 12) (ci := 10) (pc := 47) 45 rfl fl_X10_87 (by decide) rfl (by decide) (by decide) (fm_dec dtX10_fillRoom 27 rfl) ?_
  refine fm_alenI (k := 45) (n := 201) (v := 201) (pc := 50) (by decide) rfl rfl (by decide) (fm_dec dtX10_fillRoom 28 rfl) ?_
  refine fm_icmp_ge (pc := 51) 63 (by decide) (fm_dec dtX10_fillRoom 29 rfl) (fun hc51 => by exfalso; have h9 := inR_toInt hr; rw [Int32.le_iff_toInt_le] at hc51; rw [show (201 : Int32).toInt = 201 by decide] at hc51; rw [show (200 : Int32).toInt = 200 by decide] at h9; omega) (fun _ => ?_)
  refine fm_aloadn (pc := 54) (n := 0) 0 rfl rfl (fm_dec dtX10_fillRoom 30 rfl) ?_
  refine fm_getR (k := 0) (j := 12) (ci := 10) (pc := 55) 45 rfl fl_X10_87 (by decide) rfl (by decide) (by decide) (fm_dec dtX10_fillRoom 31 rfl) ?_
  refine fm_iloadn (pc := 58) (n := 2) 2 rfl rfl (fm_dec dtX10_fillRoom 32 rfl) ?_
  refine fm_iald (k := 45) (n := 201) (pc := 59) (by decide) rfl rfl (vp_inR 200 hr (by decide)) (fm_dec dtX10_fillRoom 33 rfl) ?_
  refine fm_goto (pc := 60) 64 (by decide) (fm_dec dtX10_fillRoom 34 rfl) ?_
  exact fm_ireturn (pc := 64) rfl (fm_dec dtX10_fillRoom 36 rfl) (by rw [z5 _ (by have h9 := vp_in_iff.mp (vp_inR (n := 201) 200 hr (by decide)); have : (r.toNatClampNeg : Int) < 201 := (by show ((r.toInt.toNat : Nat) : Int) < 201; omega); omega)]; exact hq _)

set_option maxRecDepth 20000 in
theorem c_roomWorth0 {l : Launch} {G : fmG} {M : fmM} {Q : fmR → fmM → Prop} (hst : l.stackTraces = false)  (hq : Q (.inl (some (.int 0))) M) : fmGood Tx l G 0 qX10_roomWorth [.int 0] M Q := by
  refine fmGood_of hst (by decide +kernel) (Nat.le_of_ble_eq_true rfl) ?_
  show fmEv Tx l G 0 qX10_roomWorth 0 [some (.int 0)] [] M Q
  refine fm_iloadn (pc := 0) (n := 0) 0 rfl rfl (fm_dec dtX10_roomWorth 0 rfl) ?_
  refine fm_ldcw (pc := 1) kc_X10_393 (fm_dec dtX10_roomWorth 1 rfl) ?_
  refine fm_iadd (pc := 4) (fm_dec dtX10_roomWorth 2 rfl) ?_
  refine fm_bipush (pc := 5) (v := 16) (by decide) (fm_dec dtX10_roomWorth 3 rfl) ?_
  refine fm_ishr (pc := 7) (fm_dec dtX10_roomWorth 4 rfl) ?_
  refine fm_topE (v := 0) (by decide) ?_
  exact fm_ireturn (pc := 8) rfl (fm_dec dtX10_roomWorth 5 rfl) hq

set_option maxRecDepth 20000 in
theorem x_room {l : Launch} {G : fmG} {M : fmM} {Q : fmR → fmM → Prop} (hst : l.stackTraces = false) (b r : Int32) (hl : M.1 3 9 = 0) (hq : ∀ M', inR b 0 0 → inR r 0 200 → Q (.inl (some (.int 0))) M') (hx : ∀ M', ¬ (inR b 0 0 ∧ inR r 0 200) → Q (.inr fmIAE) M') : fmGood Tx l G 3 qX10_room [.ref (G.1 0), .int b, .int r] M Q := by
  refine fmGood_of hst (by decide +kernel) (Nat.le_of_ble_eq_true rfl) ?_
  show fmEv Tx l G 3 qX10_room 0 [some (.ref (G.1 0)), some (.int b), some (.int r)] [] M Q
  refine fm_aloadn (pc := 0) (n := 0) 0 rfl rfl (fm_dec dtX10_room 0 rfl) ?_
  refine fm_iloadn (pc := 1) (n := 1) 1 rfl rfl (fm_dec dtX10_room 1 rfl) ?_
  refine fm_invV1 (k := 0) (d' := 1) (pc := 2) cv_X10_319 (by decide) rfl (Nat.le_of_ble_eq_true rfl) (by decide) (fm_dec dtX10_room 2 rfl) ?_
  refine c_needBits0 hst _ hl (fun hi2 => ?_) (fun _ hx2 => ?_)
  · refine fm_then0 ?_
    refine fm_aloadn (pc := 5) (n := 0) 0 rfl rfl (fm_dec dtX10_room 3 rfl) ?_
    refine fm_iloadn (pc := 6) (n := 2) 2 rfl rfl (fm_dec dtX10_room 4 rfl) ?_
    refine fm_iconst (pc := 7) (v := 0) (by decide) (fm_dec dtX10_room 5 rfl) ?_
    refine fm_sipush (pc := 8) (v := 200) (by decide) (fm_dec dtX10_room 6 rfl) ?_
    refine fm_invV3 (k := 0) (d' := 0) (pc := 11) cv_X10_169 (by decide) rfl (Nat.le_of_ble_eq_true rfl) (by decide) (fm_dec dtX10_room 7 rfl) ?_
    refine c_needWithin hst _ _ _ (fun hi11 => ?_) (fun hx11 => ?_)
    · refine fm_then0 ?_
      refine fm_aloadn (pc := 14) (n := 0) 0 rfl rfl (fm_dec dtX10_room 8 rfl) ?_
      refine fm_iloadn (pc := 15) (n := 1) 1 rfl rfl (fm_dec dtX10_room 9 rfl) ?_
      refine fm_iloadn (pc := 16) (n := 2) 2 rfl rfl (fm_dec dtX10_room 10 rfl) ?_
      refine fm_invV2 (k := 0) (d' := 2) (pc := 17) cv_X10_322 (by decide) rfl (Nat.le_of_ble_eq_true rfl) (by decide) (fm_dec dtX10_room 11 rfl) ?_
      refine c_fillRoom0 hst _ _ hl hi11 (fun _ => ?_)
      refine fm_then1 ?_
      refine fm_invS1 (d' := 0) (pc := 20) cs_X10_325 (Nat.le_of_ble_eq_true rfl) (by decide) (fm_dec dtX10_room 12 rfl) ?_
      refine c_roomWorth0 hst ?_
      refine fm_then1 ?_
      exact fm_ireturn (pc := 23) rfl (fm_dec dtX10_room 13 rfl) (hq _ hi2 hi11)
    · refine fm_thenX ?_
      exact hx _ (fun h => by first | exact hx11 h.1 | exact hx11 h.2)
  · refine fm_thenX ?_
    exact hx _ (fun h => by first | exact hx2 h.1 | exact hx2 h.2)

set_option maxRecDepth 20000 in
theorem c_tells0 {l : Launch} {G : fmG} {M : fmM} {Q : fmR → fmM → Prop} (hst : l.stackTraces = false) (b k : Int32) (hl : M.1 3 9 = 0) (hq : Q (.inl (some (.int 1))) M) : fmGood Tx l G 0 qX10_tellsApart [.ref (G.1 0), .int b, .int k] M Q := by
  refine fmGood_of hst (by decide +kernel) (Nat.le_of_ble_eq_true rfl) ?_
  show fmEv Tx l G 0 qX10_tellsApart 0 [some (.ref (G.1 0)), some (.int b), some (.int k), none, none, none] [] M Q
  refine fm_iconst (pc := 0) (v := 0) (by decide) (fm_dec dtX10_tellsApart 0 rfl) ?_
  refine fm_istoren (pc := 1) (n := 3) 3 rfl (by decide) rfl (fm_dec dtX10_tellsApart 1 rfl) ?_
  dsimp only [List.set_cons_zero, List.set_cons_succ]
  refine fm_iloadn (pc := 2) (n := 3) 3 rfl rfl (fm_dec dtX10_tellsApart 2 rfl) ?_
  refine fm_aloadn (pc := 3) (n := 0) 0 rfl rfl (fm_dec dtX10_tellsApart 3 rfl) ?_
  refine fm_getR (k := 0) (j := 1) (ci := 10) (pc := 4) 3 rfl fl_X10_19 (by decide) rfl (by decide) (by decide) (fm_dec dtX10_tellsApart 4 rfl) ?_
  refine fm_getI (k := 3) (j := 9) (ci := 8) (pc := 7) fl_X10_138 (by decide) rfl (by decide) rfl (fm_dec dtX10_tellsApart 5 rfl) ?_
  refine fm_icmp_ge (pc := 10) 88 (by decide) (fm_dec dtX10_tellsApart 6 rfl) (fun _ => ?_) (fun hc10 => by exfalso; exact hc10 (by simp [hl]))
  refine fm_iconst (pc := 88) (v := 1) (by decide) (fm_dec dtX10_tellsApart 50 rfl) ?_
  exact fm_zreturn (pc := 89) rfl rfl (fm_dec dtX10_tellsApart 51 rfl) hq

theorem bcE_pos : ∀ i, i < 64 → 0 ≤ bcE (nI i) := by decide +kernel

set_option maxRecDepth 20000 in
theorem ap_loop {l : Launch} {G : fmG} {Q : fmR → fmM → Prop} (hst : l.stackTraces = false) {M : fmM} (b w : Int32) (hl : M.1 3 9 = 0) (hq : Q (.inl (some (.int 0))) M) : ∀ (n i : Nat), i + n = 64 → fmEv Tx l G 2 qX10_apart 25 [some (.ref (G.1 0)), some (.int b), some (.int w), some (.int 0), some (.int 0), some (.int (nI i)), none] [] M Q := by
  intro n
  induction n with
  | zero =>
    intro i hi
    have e : i = 64 := by omega
    subst e
    refine fm_iload (pc := 25) (i := 5) rfl (fm_dec dtX10_apart 16 rfl) ?_
    refine fm_bipush (pc := 27) (v := 64) (by decide) (fm_dec dtX10_apart 17 rfl) ?_
    refine fm_icmp_ge (pc := 29) 69 (by decide) (fm_dec dtX10_apart 18 rfl) (fun _ => ?_) (fun hc29 => by exfalso; exact hc29 (by decide))
    refine fm_iloadn (pc := 69) (n := 3) 3 rfl rfl (fm_dec dtX10_apart 36 rfl) ?_
    refine fm_iconst (pc := 70) (v := (-1)) (by decide) (fm_dec dtX10_apart 37 rfl) ?_
    refine fm_icmp_eq (pc := 71) 79 (by decide) (fm_dec dtX10_apart 38 rfl) (fun hc71 => by exfalso; exact absurd hc71 (by decide)) (fun _ => ?_)
    refine fm_iloadn (pc := 74) (n := 2) 2 rfl rfl (fm_dec dtX10_apart 39 rfl) ?_
    refine fm_iconst (pc := 75) (v := 1) (by decide) (fm_dec dtX10_apart 40 rfl) ?_
    refine fm_icmp_ne (pc := 76) 83 (by decide) (fm_dec dtX10_apart 41 rfl) (fun hc76 => ?_) (fun hc76 => ?_)
    · refine fm_iload (pc := 83) (i := 4) rfl (fm_dec dtX10_apart 44 rfl) ?_
      exact fm_ireturn (pc := 85) rfl (fm_dec dtX10_apart 45 rfl) hq
    · refine fm_iloadn (pc := 79) (n := 3) 3 rfl rfl (fm_dec dtX10_apart 42 rfl) ?_
      refine fm_goto (pc := 80) 85 (by decide) (fm_dec dtX10_apart 43 rfl) ?_
      exact fm_ireturn (pc := 85) rfl (fm_dec dtX10_apart 45 rfl) hq
  | succ n ih =>
    intro i hi
    refine fm_iload (pc := 25) (i := 5) rfl (fm_dec dtX10_apart 16 rfl) ?_
    refine fm_bipush (pc := 27) (v := 64) (by decide) (fm_dec dtX10_apart 17 rfl) ?_
    refine fm_icmp_ge (pc := 29) 69 (by decide) (fm_dec dtX10_apart 18 rfl) (fun hc29 => by exfalso; rw [show (64 : Int32) = nI 64 by decide] at hc29; exact nI_ge (show i < 64 by omega) (by decide) hc29) (fun _ => ?_)
    refine fm_iload (pc := 32) (i := 5) rfl (fm_dec dtX10_apart 19 rfl) ?_
    refine fm_invS1 (d' := 0) (pc := 34) cs_X10_182 (Nat.le_of_ble_eq_true rfl) (by decide) (fm_dec dtX10_apart 20 rfl) ?_
    refine c_bitCount hst _ ?_
    refine fm_then1 ?_
    refine fm_istore (pc := 37) (i := 6) (by decide) rfl (fm_dec dtX10_apart 21 rfl) ?_
    dsimp only [List.set_cons_zero, List.set_cons_succ]
    refine fm_iload (pc := 39) (i := 6) rfl (fm_dec dtX10_apart 22 rfl) ?_
    refine fm_iload (pc := 41) (i := 4) rfl (fm_dec dtX10_apart 23 rfl) ?_
    refine fm_icmp_ge (pc := 43) 63 (by decide) (fm_dec dtX10_apart 24 rfl) (fun _ => ?_) (fun hc43 => by exfalso; exact hc43 (bcE_pos i (by omega)))
    refine fm_iincc (pc := 63) 5 1 (by decide) rfl (by decide) rfl (fm_dec dtX10_apart 34 rfl) ?_
    dsimp only [List.set_cons_zero, List.set_cons_succ]
    refine fm_goto (pc := 66) 25 (by decide) (fm_dec dtX10_apart 35 rfl) ?_
    rw [show nI i + 1 = nI (i + 1) from nI_1 i]
    refine fm_kill 6 ?_
    dsimp only [List.set_cons_zero, List.set_cons_succ]
    exact ih (i + 1) (by omega)

set_option maxRecDepth 20000 in
theorem x_apart {l : Launch} {G : fmG} {M : fmM} {Q : fmR → fmM → Prop} (hst : l.stackTraces = false) (b w : Int32) (hl : M.1 3 9 = 0) (hq : inR b 0 0 → inR w 0 1 → Q (.inl (some (.int 0))) M) (hx : ∀ M', ¬ (inR b 0 0 ∧ inR w 0 1) → Q (.inr fmIAE) M') : fmGood Tx l G 2 qX10_apart [.ref (G.1 0), .int b, .int w] M Q := by
  refine fmGood_of hst (by decide +kernel) (Nat.le_of_ble_eq_true rfl) ?_
  show fmEv Tx l G 2 qX10_apart 0 [some (.ref (G.1 0)), some (.int b), some (.int w), none, none, none, none] [] M Q
  refine fm_aloadn (pc := 0) (n := 0) 0 rfl rfl (fm_dec dtX10_apart 0 rfl) ?_
  refine fm_iloadn (pc := 1) (n := 1) 1 rfl rfl (fm_dec dtX10_apart 1 rfl) ?_
  refine fm_invV1 (k := 0) (d' := 1) (pc := 2) cv_X10_319 (by decide) rfl (Nat.le_of_ble_eq_true rfl) (by decide) (fm_dec dtX10_apart 2 rfl) ?_
  refine c_needBits0 hst _ hl (fun hi2 => ?_) (fun _ hx2 => ?_)
  · refine fm_then0 ?_
    refine fm_aloadn (pc := 5) (n := 0) 0 rfl rfl (fm_dec dtX10_apart 3 rfl) ?_
    refine fm_iloadn (pc := 6) (n := 2) 2 rfl rfl (fm_dec dtX10_apart 4 rfl) ?_
    refine fm_iconst (pc := 7) (v := 0) (by decide) (fm_dec dtX10_apart 5 rfl) ?_
    refine fm_iconst (pc := 8) (v := 1) (by decide) (fm_dec dtX10_apart 6 rfl) ?_
    refine fm_invV3 (k := 0) (d' := 0) (pc := 9) cv_X10_169 (by decide) rfl (Nat.le_of_ble_eq_true rfl) (by decide) (fm_dec dtX10_apart 7 rfl) ?_
    refine c_needWithin hst _ _ _ (fun hi9 => ?_) (fun hx9 => ?_)
    · refine fm_then0 ?_
      refine fm_aloadn (pc := 12) (n := 0) 0 rfl rfl (fm_dec dtX10_apart 8 rfl) ?_
      refine fm_invV0 (k := 0) (d' := 1) (pc := 13) cv_X10_331 (by decide) rfl (Nat.le_of_ble_eq_true rfl) (by decide) (fm_dec dtX10_apart 9 rfl) ?_
      refine c_look0 hst hl ?_
      refine fm_then0 ?_
      refine fm_iconst (pc := 16) (v := (-1)) (by decide) (fm_dec dtX10_apart 10 rfl) ?_
      refine fm_istoren (pc := 17) (n := 3) 3 rfl (by decide) rfl (fm_dec dtX10_apart 11 rfl) ?_
      dsimp only [List.set_cons_zero, List.set_cons_succ]
      refine fm_bipush (pc := 18) (v := 7) (by decide) (fm_dec dtX10_apart 12 rfl) ?_
      refine fm_istore (pc := 20) (i := 4) (by decide) rfl (fm_dec dtX10_apart 13 rfl) ?_
      dsimp only [List.set_cons_zero, List.set_cons_succ]
      refine fm_iconst (pc := 22) (v := 0) (by decide) (fm_dec dtX10_apart 14 rfl) ?_
      refine fm_istore (pc := 23) (i := 5) (by decide) rfl (fm_dec dtX10_apart 15 rfl) ?_
      dsimp only [List.set_cons_zero, List.set_cons_succ]
      refine fm_iload (pc := 25) (i := 5) rfl (fm_dec dtX10_apart 16 rfl) ?_
      refine fm_bipush (pc := 27) (v := 64) (by decide) (fm_dec dtX10_apart 17 rfl) ?_
      refine fm_icmp_ge (pc := 29) 69 (by decide) (fm_dec dtX10_apart 18 rfl) (fun hc29 => by exfalso; exact absurd hc29 (by decide)) (fun _ => ?_)
      refine fm_iload (pc := 32) (i := 5) rfl (fm_dec dtX10_apart 19 rfl) ?_
      refine fm_invS1 (d' := 0) (pc := 34) cs_X10_182 (Nat.le_of_ble_eq_true rfl) (by decide) (fm_dec dtX10_apart 20 rfl) ?_
      refine c_bitCount hst _ ?_
      refine fm_then1 ?_
      refine fm_topE (v := 0) (by decide) ?_
      refine fm_istore (pc := 37) (i := 6) (by decide) rfl (fm_dec dtX10_apart 21 rfl) ?_
      dsimp only [List.set_cons_zero, List.set_cons_succ]
      refine fm_iload (pc := 39) (i := 6) rfl (fm_dec dtX10_apart 22 rfl) ?_
      refine fm_iload (pc := 41) (i := 4) rfl (fm_dec dtX10_apart 23 rfl) ?_
      refine fm_icmp_ge (pc := 43) 63 (by decide) (fm_dec dtX10_apart 24 rfl) (fun hc43 => by exfalso; exact absurd hc43 (by decide)) (fun _ => ?_)
      refine fm_aloadn (pc := 46) (n := 0) 0 rfl rfl (fm_dec dtX10_apart 25 rfl) ?_
      refine fm_iloadn (pc := 47) (n := 1) 1 rfl rfl (fm_dec dtX10_apart 26 rfl) ?_
      refine fm_iload (pc := 48) (i := 5) rfl (fm_dec dtX10_apart 27 rfl) ?_
      refine fm_invV2 (k := 0) (d' := 0) (pc := 50) cv_X10_334 (by decide) rfl (Nat.le_of_ble_eq_true rfl) (by decide) (fm_dec dtX10_apart 28 rfl) ?_
      refine c_tells0 hst _ _ hl ?_
      refine fm_then1 ?_
      refine fm_if_eq (pc := 53) 63 (by decide) (fm_dec dtX10_apart 29 rfl) (fun hc53 => by exfalso; exact absurd hc53 (by decide)) (fun _ => ?_)
      refine fm_iload (pc := 56) (i := 6) rfl (fm_dec dtX10_apart 30 rfl) ?_
      refine fm_istore (pc := 58) (i := 4) (by decide) rfl (fm_dec dtX10_apart 31 rfl) ?_
      dsimp only [List.set_cons_zero, List.set_cons_succ]
      refine fm_iload (pc := 60) (i := 5) rfl (fm_dec dtX10_apart 32 rfl) ?_
      refine fm_istoren (pc := 62) (n := 3) 3 rfl (by decide) rfl (fm_dec dtX10_apart 33 rfl) ?_
      dsimp only [List.set_cons_zero, List.set_cons_succ]
      refine fm_iincc (pc := 63) 5 1 (by decide) rfl (by decide) rfl (fm_dec dtX10_apart 34 rfl) ?_
      dsimp only [List.set_cons_zero, List.set_cons_succ]
      refine fm_goto (pc := 66) 25 (by decide) (fm_dec dtX10_apart 35 rfl) ?_
      rw [show (0 : Int32) + 1 = nI 1 by decide]
      refine fm_kill 6 ?_
      dsimp only [List.set_cons_zero, List.set_cons_succ]
      exact ap_loop hst b w hl (hq hi2 hi9) 63 1 (by omega)
    · refine fm_thenX ?_
      exact hx _ (fun h => by first | exact hx9 h.1 | exact hx9 h.2)
  · refine fm_thenX ?_
    exact hx _ (fun h => by first | exact hx2 h.1 | exact hx2 h.2)
