-- FACTS IN A WEEK, exactly
theorem xor6 : ∀ w, w < 64 → ∀ k, k < 6 → (nI w ^^^ (1 : Int32) <<< (nI k &&& 31)) = nI (w ^^^ 1 <<< k) ∧ w ^^^ 1 <<< k < 64 := by decide +kernel
theorem xor6z : ∀ w, w < 64 → (nI w ^^^ (0 : Int32)) = nI w := by decide +kernel
def fbS (D : dD) (li wk : Int) : Nat → Nat
  | 0 => 0
  | n + 1 => if D.2.2.2.1 n 0 = li ∧ D.2.2.2.1 n 2 ≤ wk then fbS D li wk n ^^^ 1 <<< (D.2.2.2.1 n 1).toNat else fbS D li wk n
theorem fb_no {D : dD} {li wk : Int} {n : Nat} (h : ¬ (D.2.2.2.1 n 0 = li ∧ D.2.2.2.1 n 2 ≤ wk)) : fbS D li wk (n + 1) = fbS D li wk n := if_neg h
theorem fb_go {D : dD} {li wk : Int} {n k : Nat} (h : D.2.2.2.1 n 0 = li ∧ D.2.2.2.1 n 2 ≤ wk) (hk : D.2.2.2.1 n 1 = (k : Int)) : fbS D li wk (n + 1) = fbS D li wk n ^^^ 1 <<< k := by
  show (if D.2.2.2.1 n 0 = li ∧ D.2.2.2.1 n 2 ≤ wk then fbS D li wk n ^^^ 1 <<< (D.2.2.2.1 n 1).toNat else fbS D li wk n) = _
  rw [if_pos h, hk, Int.toNat_natCast]
theorem fb_64 {D : dD} {li wk : Int} (hD : dOk D) : ∀ n, n ≤ D.2.2.1 → fbS D li wk n < 64 := by
  intro n
  induction n with
  | zero => intro _; exact (by decide : (0 : Nat) < 64)
  | succ n ih =>
    intro hn
    have h1 := ih (by omega)
    by_cases h : D.2.2.2.1 n 0 = li ∧ D.2.2.2.1 n 2 ≤ wk
    · have hb := (hD.2.2.2.1 n (by omega)).2.1
      rw [fb_go (k := (D.2.2.2.1 n 1).toNat) h (by omega)]
      exact (xor6 _ h1 _ (by omega)).2
    · rw [fb_no h]
      exact h1
/-- the facts of a life in a week -/
def fbA (D : dD) (li wk : Int) : Nat := fbS D li wk D.2.2.1
theorem kd_d {D : dD} {n : Nat} {x : Int32} (hD : dOk D) (hn : n < D.2.2.1) (hx : x.toInt = D.2.2.2.1 n 1) : ∃ k : Nat, k < 6 ∧ D.2.2.2.1 n 1 = (k : Int) ∧ x = nI k := by
  have hb := (hD.2.2.2.1 n hn).2.1
  exact ⟨(D.2.2.2.1 n 1).toNat, by omega, by omega, nI_is (by omega) (by omega)⟩
set_option maxRecDepth 20000 in
theorem xf_loop {Q : fmR → fmM → Prop} {M : fmM} {li wk : Int32} {D : dD} (hD : dOk D) (hX : xdw 3 M D) : ∀ (m : Nat) (n : Nat) (i : Int32), i.toInt = (n : Int) → n ≤ D.2.2.1 → D.2.2.1 - n = m → Q (.inl (some (.int (nI (fbA D li.toInt wk.toInt))))) M → pvEv Tx 0 qX8_factBits 5 [some (.ref 3), some (.int li), some (.int wk), some (.int (nI (fbS D li.toInt wk.toInt n))), some (.int i)] [] M Q := by
  intro m
  induction m using Nat.strongRecOn with
  | _ m ih =>
    intro n i hi hnD hm hq
    have c10 : (M.1 3 10).toInt = (D.2.2.1 : Int) := hX.1.2.1
    have d24 := hD.2.1
    refine pv_iload (pc := 5) (i := 4) rfl (fm_dec dtX8_factBits 4 rfl) ?_
    refine pv_aloadn (pc := 7) (n := 0) 0 rfl rfl (fm_dec dtX8_factBits 5 rfl) ?_
    refine pv_getI (k := 3) (j := 10) (ci := 8) (pc := 8) pfl_X8_46 (by decide) rfl (by decide) (fm_dec dtX8_factBits 6 rfl) ?_
    refine pv_icmp_ge (pc := 11) 54 (by decide) (fm_dec dtX8_factBits 7 rfl) (fun hc11 => ?_) (fun hc11 => ?_)
    · refine pv_iloadn (pc := 54) (n := 3) 3 rfl rfl (fm_dec dtX8_factBits 31 rfl) ?_
      exact pv_ireturn (pc := 55) rfl (fm_dec dtX8_factBits 32 rfl) (by have e9 : n = D.2.2.1 := (by rw [sc_le] at hc11; omega); subst e9; exact hq)
    · have hn : n < D.2.2.1 := (by rw [sc_le] at hc11; omega)
      have d24 := hD.2.1
      have f0 : (M.1 10 n).toInt = D.2.2.2.1 n 0 := hX.2.2 n hn 0 (by decide)
      have f1 : (M.1 11 n).toInt = D.2.2.2.1 n 1 := hX.2.2 n hn 1 (by decide)
      have f2 : (M.1 12 n).toInt = D.2.2.2.1 n 2 := hX.2.2 n hn 2 (by decide)
      refine pv_aloadn (pc := 14) (n := 0) 0 rfl rfl (fm_dec dtX8_factBits 8 rfl) ?_
      refine pv_getR (k := 3) (j := 6) (ci := 8) (pc := 15) 10 rfl (by decide) pfl_X8_30 (by decide) rfl (by decide) (fm_dec dtX8_factBits 9 rfl) ?_
      refine pv_iload (pc := 18) (i := 4) rfl (fm_dec dtX8_factBits 10 rfl) ?_
      refine pv_iald (k := 10) (n := 24) (pc := 20) (by decide) rfl rfl (ix_in hi (by omega)) (fm_dec dtX8_factBits 11 rfl) ?_
      rw [i32_cl hi]
      refine pv_iloadn (pc := 21) (n := 1) 1 rfl rfl (fm_dec dtX8_factBits 12 rfl) ?_
      refine pv_icmp_ne (pc := 22) 48 (by decide) (fm_dec dtX8_factBits 13 rfl) (fun hc22 => ?_) (fun hc22 => ?_)
      · refine pv_iincc (pc := 48) 4 1 (by decide) rfl (by decide) rfl (fm_dec dtX8_factBits 29 rfl) ?_
        dsimp only [List.set_cons_zero, List.set_cons_succ]
        refine pv_goto (pc := 51) 5 (by decide) (fm_dec dtX8_factBits 30 rfl) ?_
        have e9 : fbS D li.toInt wk.toInt (n + 1) = fbS D li.toInt wk.toInt n := fb_no (by intro h9; apply hc22; apply i32_ext; omega)
        rw [← e9]
        exact ih (D.2.2.1 - (n + 1)) (by omega) (n + 1) (i + 1) (i32_p1 hi (by omega)) (by omega) rfl hq
      · refine pv_aloadn (pc := 25) (n := 0) 0 rfl rfl (fm_dec dtX8_factBits 14 rfl) ?_
        refine pv_getR (k := 3) (j := 8) (ci := 8) (pc := 26) 12 rfl (by decide) pfl_X8_36 (by decide) rfl (by decide) (fm_dec dtX8_factBits 15 rfl) ?_
        refine pv_iload (pc := 29) (i := 4) rfl (fm_dec dtX8_factBits 16 rfl) ?_
        refine pv_iald (k := 12) (n := 24) (pc := 31) (by decide) rfl rfl (ix_in hi (by omega)) (fm_dec dtX8_factBits 17 rfl) ?_
        rw [i32_cl hi]
        refine pv_iloadn (pc := 32) (n := 2) 2 rfl rfl (fm_dec dtX8_factBits 18 rfl) ?_
        refine pv_icmp_gt (pc := 33) 48 (by decide) (fm_dec dtX8_factBits 19 rfl) (fun hc33 => ?_) (fun hc33 => ?_)
        · refine pv_iincc (pc := 48) 4 1 (by decide) rfl (by decide) rfl (fm_dec dtX8_factBits 29 rfl) ?_
          dsimp only [List.set_cons_zero, List.set_cons_succ]
          refine pv_goto (pc := 51) 5 (by decide) (fm_dec dtX8_factBits 30 rfl) ?_
          have e9 : fbS D li.toInt wk.toInt (n + 1) = fbS D li.toInt wk.toInt n := fb_no (by intro h9; rw [sc_lt] at hc33; omega)
          rw [← e9]
          exact ih (D.2.2.1 - (n + 1)) (by omega) (n + 1) (i + 1) (i32_p1 hi (by omega)) (by omega) rfl hq
        · refine pv_iloadn (pc := 36) (n := 3) 3 rfl rfl (fm_dec dtX8_factBits 20 rfl) ?_
          refine pv_iconst (pc := 37) (v := 1) (by decide) (fm_dec dtX8_factBits 21 rfl) ?_
          refine pv_aloadn (pc := 38) (n := 0) 0 rfl rfl (fm_dec dtX8_factBits 22 rfl) ?_
          refine pv_getR (k := 3) (j := 7) (ci := 8) (pc := 39) 11 rfl (by decide) pfl_X8_33 (by decide) rfl (by decide) (fm_dec dtX8_factBits 23 rfl) ?_
          refine pv_iload (pc := 42) (i := 4) rfl (fm_dec dtX8_factBits 24 rfl) ?_
          refine pv_iald (k := 11) (n := 24) (pc := 44) (by decide) rfl rfl (ix_in hi (by omega)) (fm_dec dtX8_factBits 25 rfl) ?_
          rw [i32_cl hi]
          refine pv_ishl (pc := 45) (fm_dec dtX8_factBits 26 rfl) ?_
          refine pv_ixor (pc := 46) (fm_dec dtX8_factBits 27 rfl) ?_
          refine pv_istoren (pc := 47) (n := 3) 3 rfl (by decide) rfl (fm_dec dtX8_factBits 28 rfl) ?_
          dsimp only [List.set_cons_zero, List.set_cons_succ]
          refine pv_iincc (pc := 48) 4 1 (by decide) rfl (by decide) rfl (fm_dec dtX8_factBits 29 rfl) ?_
          dsimp only [List.set_cons_zero, List.set_cons_succ]
          refine pv_goto (pc := 51) 5 (by decide) (fm_dec dtX8_factBits 30 rfl) ?_
          obtain ⟨k, hk6, hk, hkx⟩ := kd_d hD hn f1
          have e9 : fbS D li.toInt wk.toInt (n + 1) = fbS D li.toInt wk.toInt n ^^^ 1 <<< k := fb_go ⟨by rw [← f0, hc22], by rw [sc_lt] at hc33; omega⟩ hk
          rw [hkx, (xor6 _ (fb_64 hD n (by omega)) k hk6).1, ← e9]
          exact ih (D.2.2.1 - (n + 1)) (by omega) (n + 1) (i + 1) (i32_p1 hi (by omega)) (by omega) rfl hq
set_option maxRecDepth 20000 in
theorem c_xfb {M : fmM} {Q : fmR → fmM → Prop} {li wk : Int32} {D : dD} (hD : dOk D) (hX : xdw 3 M D) (hq : Q (.inl (some (.int (nI (fbA D li.toInt wk.toInt))))) M) : pvGood Tx 0 qX8_factBits [.ref 3, .int li, .int wk] M Q := by
  refine pvGood_of (Nat.le_of_ble_eq_true rfl) ?_
  show pvEv Tx 0 qX8_factBits 0 [some (.ref 3), some (.int li), some (.int wk), none, none] [] M Q
  refine pv_iconst (pc := 0) (v := 0) (by decide) (fm_dec dtX8_factBits 0 rfl) ?_
  refine pv_istoren (pc := 1) (n := 3) 3 rfl (by decide) rfl (fm_dec dtX8_factBits 1 rfl) ?_
  dsimp only [List.set_cons_zero, List.set_cons_succ]
  refine pv_iconst (pc := 2) (v := 0) (by decide) (fm_dec dtX8_factBits 2 rfl) ?_
  refine pv_istore (pc := 3) (i := 4) (by decide) rfl (fm_dec dtX8_factBits 3 rfl) ?_
  dsimp only [List.set_cons_zero, List.set_cons_succ]
  exact xf_loop hD hX D.2.2.1 0 0 (by decide) (by omega) (by omega) hq
set_option maxRecDepth 20000 in
theorem mf_loop {Q : fmR → fmM → Prop} {M : fmM} {li wk : Int32} {D : dD} (hD : dOk D) (hY : mdw M D) : ∀ (m : Nat) (n : Nat) (i : Int32), i.toInt = (n : Int) → n ≤ D.2.2.1 → D.2.2.1 - n = m → Q (.inl (some (.int (nI (fbA D li.toInt wk.toInt))))) M → pvEv Tm 0 qX11_factsAt 5 [some (.ref 0), some (.int li), some (.int wk), some (.int (nI (fbS D li.toInt wk.toInt n))), some (.int i)] [] M Q := by
  intro m
  induction m using Nat.strongRecOn with
  | _ m ih =>
    intro n i hi hnD hm hq
    have c10 : (M.1 4 (Int32.toNatClampNeg 1)).toInt = (D.2.2.1 : Int) := hY.2.1
    have d24 := hD.2.1
    refine pv_iload (pc := 5) (i := 4) rfl (fm_dec dtX11_factsAt 4 rfl) ?_
    refine pv_aloadn (pc := 7) (n := 0) 0 rfl rfl (fm_dec dtX11_factsAt 5 rfl) ?_
    refine pv_getR (k := 0) (j := 12) (ci := 11) (pc := 8) 4 rfl (by decide) pfl_X11_23 (by decide) rfl (by decide) (fm_dec dtX11_factsAt 6 rfl) ?_
    refine pv_iconst (pc := 11) (v := 1) (by decide) (fm_dec dtX11_factsAt 7 rfl) ?_
    refine pv_iald (k := 4) (n := 6) (pc := 12) (by decide) rfl rfl (fm_inl (by decide)) (fm_dec dtX11_factsAt 8 rfl) ?_
    refine pv_icmp_ge (pc := 13) 66 (by decide) (fm_dec dtX11_factsAt 9 rfl) (fun hc13 => ?_) (fun hc13 => ?_)
    · refine pv_iloadn (pc := 66) (n := 3) 3 rfl rfl (fm_dec dtX11_factsAt 41 rfl) ?_
      exact pv_ireturn (pc := 67) rfl (fm_dec dtX11_factsAt 42 rfl) (by have e9 : n = D.2.2.1 := (by rw [sc_le] at hc13; have h8 : (M.1 4 (Int32.toNatClampNeg 1)).toInt = (D.2.2.1 : Int) := hY.2.1; omega); subst e9; exact hq)
    · have hn : n < D.2.2.1 := (by rw [sc_le] at hc13; have h9 : (M.1 4 1).toInt = (D.2.2.1 : Int) := hY.2.1; have h8 : (M.1 4 (Int32.toNatClampNeg 1)).toInt = (D.2.2.1 : Int) := hY.2.1; omega)
      have d24 := hD.2.1
      have h24 : n < 24 := (by omega)
      have f0 : (M.1 (67 + n) (Int32.toNatClampNeg 0)).toInt = D.2.2.2.1 n 0 := hY.2.2.2.2 n hn 0 (by decide)
      have f1 : (M.1 (67 + n) (Int32.toNatClampNeg 1)).toInt = D.2.2.2.1 n 1 := hY.2.2.2.2 n hn 1 (by decide)
      have f2 : (M.1 (67 + n) (Int32.toNatClampNeg 2)).toInt = D.2.2.2.1 n 2 := hY.2.2.2.2 n hn 2 (by decide)
      refine pv_iloadn (pc := 16) (n := 3) 3 rfl rfl (fm_dec dtX11_factsAt 10 rfl) ?_
      refine pv_aloadn (pc := 17) (n := 0) 0 rfl rfl (fm_dec dtX11_factsAt 11 rfl) ?_
      refine pv_getR (k := 0) (j := 16) (ci := 11) (pc := 18) 19 rfl (by decide) pfl_X11_37 (by decide) rfl (by decide) (fm_dec dtX11_factsAt 12 rfl) ?_
      refine pv_iload (pc := 21) (i := 4) rfl (fm_dec dtX11_factsAt 13 rfl) ?_
      refine pv_aald (k := 19) (n := 24) (r := (67 + n)) (pc := 23) (by decide) (Or.inr (Or.inr rfl)) rfl (rw_fact.inb hi h24) (rw_fact.at hi h24) (rw_fact.2.2.2 _ h24).2.1 (fm_dec dtX11_factsAt 14 rfl) ?_
      refine pv_iconst (pc := 24) (v := 0) (by decide) (fm_dec dtX11_factsAt 15 rfl) ?_
      refine pv_iald (k := (67 + n)) (n := 3) (pc := 25) (rw_fact.2.2.2 _ h24).2.2.1 (rw_fact.2.2.2 _ h24).2.2.2.1 (rw_fact.2.2.2 _ h24).2.2.2.2 (fm_inl (by decide)) (fm_dec dtX11_factsAt 16 rfl) ?_
      refine pv_iloadn (pc := 26) (n := 1) 1 rfl rfl (fm_dec dtX11_factsAt 17 rfl) ?_
      refine pv_icmp_ne (pc := 27) 57 (by decide) (fm_dec dtX11_factsAt 18 rfl) (fun hc27 => ?_) (fun hc27 => ?_)
      · refine pv_iconst (pc := 57) (v := 0) (by decide) (fm_dec dtX11_factsAt 36 rfl) ?_
        refine pv_ixor (pc := 58) (fm_dec dtX11_factsAt 37 rfl) ?_
        refine pv_istoren (pc := 59) (n := 3) 3 rfl (by decide) rfl (fm_dec dtX11_factsAt 38 rfl) ?_
        dsimp only [List.set_cons_zero, List.set_cons_succ]
        refine pv_iincc (pc := 60) 4 1 (by decide) rfl (by decide) rfl (fm_dec dtX11_factsAt 39 rfl) ?_
        dsimp only [List.set_cons_zero, List.set_cons_succ]
        refine pv_goto (pc := 63) 5 (by decide) (fm_dec dtX11_factsAt 40 rfl) ?_
        have e9 : fbS D li.toInt wk.toInt (n + 1) = fbS D li.toInt wk.toInt n := fb_no (by intro h9; apply hc27; apply i32_ext; omega)
        rw [xor6z _ (fb_64 hD n (by omega)), ← e9]
        exact ih (D.2.2.1 - (n + 1)) (by omega) (n + 1) (i + 1) (i32_p1 hi (by omega)) (by omega) rfl hq
      · refine pv_aloadn (pc := 30) (n := 0) 0 rfl rfl (fm_dec dtX11_factsAt 19 rfl) ?_
        refine pv_getR (k := 0) (j := 16) (ci := 11) (pc := 31) 19 rfl (by decide) pfl_X11_37 (by decide) rfl (by decide) (fm_dec dtX11_factsAt 20 rfl) ?_
        refine pv_iload (pc := 34) (i := 4) rfl (fm_dec dtX11_factsAt 21 rfl) ?_
        refine pv_aald (k := 19) (n := 24) (r := (67 + n)) (pc := 36) (by decide) (Or.inr (Or.inr rfl)) rfl (rw_fact.inb hi h24) (rw_fact.at hi h24) (rw_fact.2.2.2 _ h24).2.1 (fm_dec dtX11_factsAt 22 rfl) ?_
        refine pv_iconst (pc := 37) (v := 2) (by decide) (fm_dec dtX11_factsAt 23 rfl) ?_
        refine pv_iald (k := (67 + n)) (n := 3) (pc := 38) (rw_fact.2.2.2 _ h24).2.2.1 (rw_fact.2.2.2 _ h24).2.2.2.1 (rw_fact.2.2.2 _ h24).2.2.2.2 (fm_inl (by decide)) (fm_dec dtX11_factsAt 24 rfl) ?_
        refine pv_iloadn (pc := 39) (n := 2) 2 rfl rfl (fm_dec dtX11_factsAt 25 rfl) ?_
        refine pv_icmp_gt (pc := 40) 57 (by decide) (fm_dec dtX11_factsAt 26 rfl) (fun hc40 => ?_) (fun hc40 => ?_)
        · refine pv_iconst (pc := 57) (v := 0) (by decide) (fm_dec dtX11_factsAt 36 rfl) ?_
          refine pv_ixor (pc := 58) (fm_dec dtX11_factsAt 37 rfl) ?_
          refine pv_istoren (pc := 59) (n := 3) 3 rfl (by decide) rfl (fm_dec dtX11_factsAt 38 rfl) ?_
          dsimp only [List.set_cons_zero, List.set_cons_succ]
          refine pv_iincc (pc := 60) 4 1 (by decide) rfl (by decide) rfl (fm_dec dtX11_factsAt 39 rfl) ?_
          dsimp only [List.set_cons_zero, List.set_cons_succ]
          refine pv_goto (pc := 63) 5 (by decide) (fm_dec dtX11_factsAt 40 rfl) ?_
          have e9 : fbS D li.toInt wk.toInt (n + 1) = fbS D li.toInt wk.toInt n := fb_no (by intro h9; rw [sc_lt] at hc40; omega)
          rw [xor6z _ (fb_64 hD n (by omega)), ← e9]
          exact ih (D.2.2.1 - (n + 1)) (by omega) (n + 1) (i + 1) (i32_p1 hi (by omega)) (by omega) rfl hq
        · refine pv_iconst (pc := 43) (v := 1) (by decide) (fm_dec dtX11_factsAt 27 rfl) ?_
          refine pv_aloadn (pc := 44) (n := 0) 0 rfl rfl (fm_dec dtX11_factsAt 28 rfl) ?_
          refine pv_getR (k := 0) (j := 16) (ci := 11) (pc := 45) 19 rfl (by decide) pfl_X11_37 (by decide) rfl (by decide) (fm_dec dtX11_factsAt 29 rfl) ?_
          refine pv_iload (pc := 48) (i := 4) rfl (fm_dec dtX11_factsAt 30 rfl) ?_
          refine pv_aald (k := 19) (n := 24) (r := (67 + n)) (pc := 50) (by decide) (Or.inr (Or.inr rfl)) rfl (rw_fact.inb hi h24) (rw_fact.at hi h24) (rw_fact.2.2.2 _ h24).2.1 (fm_dec dtX11_factsAt 31 rfl) ?_
          refine pv_iconst (pc := 51) (v := 1) (by decide) (fm_dec dtX11_factsAt 32 rfl) ?_
          refine pv_iald (k := (67 + n)) (n := 3) (pc := 52) (rw_fact.2.2.2 _ h24).2.2.1 (rw_fact.2.2.2 _ h24).2.2.2.1 (rw_fact.2.2.2 _ h24).2.2.2.2 (fm_inl (by decide)) (fm_dec dtX11_factsAt 33 rfl) ?_
          refine pv_ishl (pc := 53) (fm_dec dtX11_factsAt 34 rfl) ?_
          refine pv_goto (pc := 54) 58 (by decide) (fm_dec dtX11_factsAt 35 rfl) ?_
          refine pv_ixor (pc := 58) (fm_dec dtX11_factsAt 37 rfl) ?_
          refine pv_istoren (pc := 59) (n := 3) 3 rfl (by decide) rfl (fm_dec dtX11_factsAt 38 rfl) ?_
          dsimp only [List.set_cons_zero, List.set_cons_succ]
          refine pv_iincc (pc := 60) 4 1 (by decide) rfl (by decide) rfl (fm_dec dtX11_factsAt 39 rfl) ?_
          dsimp only [List.set_cons_zero, List.set_cons_succ]
          refine pv_goto (pc := 63) 5 (by decide) (fm_dec dtX11_factsAt 40 rfl) ?_
          obtain ⟨k, hk6, hk, hkx⟩ := kd_d hD hn f1
          have e9 : fbS D li.toInt wk.toInt (n + 1) = fbS D li.toInt wk.toInt n ^^^ 1 <<< k := fb_go ⟨by rw [← f0, hc27], by rw [sc_lt] at hc40; omega⟩ hk
          rw [hkx, (xor6 _ (fb_64 hD n (by omega)) k hk6).1, ← e9]
          exact ih (D.2.2.1 - (n + 1)) (by omega) (n + 1) (i + 1) (i32_p1 hi (by omega)) (by omega) rfl hq
set_option maxRecDepth 20000 in
theorem c_mfb {M : fmM} {Q : fmR → fmM → Prop} {li wk : Int32} {D : dD} (hD : dOk D) (hY : mdw M D) (hq : Q (.inl (some (.int (nI (fbA D li.toInt wk.toInt))))) M) : pvGood Tm 0 qX11_factsAt [.ref 0, .int li, .int wk] M Q := by
  refine pvGood_of (Nat.le_of_ble_eq_true rfl) ?_
  show pvEv Tm 0 qX11_factsAt 0 [some (.ref 0), some (.int li), some (.int wk), none, none] [] M Q
  refine pv_iconst (pc := 0) (v := 0) (by decide) (fm_dec dtX11_factsAt 0 rfl) ?_
  refine pv_istoren (pc := 1) (n := 3) 3 rfl (by decide) rfl (fm_dec dtX11_factsAt 1 rfl) ?_
  dsimp only [List.set_cons_zero, List.set_cons_succ]
  refine pv_iconst (pc := 2) (v := 0) (by decide) (fm_dec dtX11_factsAt 2 rfl) ?_
  refine pv_istore (pc := 3) (i := 4) (by decide) rfl (fm_dec dtX11_factsAt 3 rfl) ?_
  dsimp only [List.set_cons_zero, List.set_cons_succ]
  exact mf_loop hD hY D.2.2.1 0 0 (by decide) (by omega) (by omega) hq
