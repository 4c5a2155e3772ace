-- THE REFERENCE'S STATE
def mst (M : fmM) (D : dD) (S : aS) : Prop := (M.1 7 0).toInt = (S.1.2.2.1 : Int) ∧ (M.1 7 10).toInt = (S.1.1 : Int) ∧ (M.1 7 9).toInt = (S.1.2.1 : Int) ∧ (M.1 7 11).toInt = (S.1.2.2.2.1 : Int) ∧ (M.1 7 12).toInt = (S.1.2.2.2.2.1 : Int) ∧ (M.1 7 13).toInt = S.1.2.2.2.2.2 ∧ ∀ i, i < D.1 → (M.1 7 (1 + i)).toInt = if S.2 i = -1 then -1000 else (S.1.1 : Int) - S.2 i
theorem mst.of {M M' : fmM} {D : dD} {S : aS} (h : mst M D S) (e : ∀ j, M'.1 7 j = M.1 7 j) : mst M' D S := by
  obtain ⟨a, b, c, d, e1, f, g⟩ := h
  exact ⟨by rw [e]; exact a, by rw [e]; exact b, by rw [e]; exact c, by rw [e]; exact d, by rw [e]; exact e1, by rw [e]; exact f, fun i hi => by rw [e]; exact g i hi⟩
theorem mst.no {M : fmM} {D : dD} {S : aS} {i : Nat} (h : mst M D S) (ho : stO D S) (hi : i < D.1) : M.1 7 (1 + i) = -1000 ↔ S.2 i = -1 := by
  have h9 := h.2.2.2.2.2.2 i hi
  have b := ho.2.2.2.2.2.2.1 i hi
  have zm : (-1000 : Int32).toInt = -1000 := by decide
  constructor
  · intro e
    rw [e, zm] at h9
    split at h9
    · assumption
    · omega
  · intro e
    rw [if_pos e] at h9
    exact i32_ext (h9.trans zm.symm)
theorem mdw.k {M M' : fmM} {D : dD} (h : mdw M D) (hD : dOk D) (e : ∀ k j, k = 4 ∨ (35 ≤ k ∧ k < 43) ∨ (67 ≤ k ∧ k < 91) → M'.1 k j = M.1 k j) : mdw M' D := by
  have d8 := hD.1
  have d24 := hD.2.1
  refine ⟨by rw [e _ _ (Or.inl rfl)]; exact h.1, by rw [e _ _ (Or.inl rfl)]; exact h.2.1, fun k a b => by rw [e _ _ (Or.inl rfl)]; exact h.2.2.1 k a b, fun i hi j hj => by rw [e _ _ (by omega)]; exact h.2.2.2.1 i hi j hj, fun i hi j hj => by rw [e _ _ (by omega)]; exact h.2.2.2.2 i hi j hj⟩
set_option maxRecDepth 20000 in
theorem mcg_loop {Q : fmR → fmM → Prop} {M : fmM} {li a b : Int32} {D : dD} (hD : dOk D) (hY : mdw M D) : ∀ (m : Nat) (n : Nat) (i : Int32), i.toInt = (n : Int) → n ≤ D.2.2.1 → D.2.2.1 - n = m → Q (.inl (some (.int (nI (cgA D li.toInt a.toInt b.toInt))))) M → pvEv Tm 0 qX11_changesOf 6 [some (.ref 0), some (.int li), some (.int a), some (.int b), some (.int (nI (cgS D li.toInt a.toInt b.toInt n))), some (.int i)] [] M Q := by
  intro m
  induction m using Nat.strongRecOn with
  | _ m ih =>
    intro n i hi hnD hm hq
    have c10 : (M.1 4 (Int32.toNatClampNeg 1)).toInt = (D.2.2.1 : Int) := hY.2.1
    have d24 := hD.2.1
    refine pv_iload (pc := 6) (i := 5) rfl (fm_dec dtX11_changesOf 4 rfl) ?_
    refine pv_aloadn (pc := 8) (n := 0) 0 rfl rfl (fm_dec dtX11_changesOf 5 rfl) ?_
    refine pv_getR (k := 0) (j := 12) (ci := 11) (pc := 9) 4 rfl (by decide) pfl_X11_23 (by decide) rfl (by decide) (fm_dec dtX11_changesOf 6 rfl) ?_
    refine pv_iconst (pc := 12) (v := 1) (by decide) (fm_dec dtX11_changesOf 7 rfl) ?_
    refine pv_iald (k := 4) (n := 6) (pc := 13) (by decide) rfl rfl (fm_inl (by decide)) (fm_dec dtX11_changesOf 8 rfl) ?_
    refine pv_icmp_ge (pc := 14) 72 (by decide) (fm_dec dtX11_changesOf 9 rfl) (fun hc14 => ?_) (fun hc14 => ?_)
    · refine pv_iload (pc := 72) (i := 4) rfl (fm_dec dtX11_changesOf 42 rfl) ?_
      exact pv_ireturn (pc := 74) rfl (fm_dec dtX11_changesOf 43 rfl) (by have e9 : n = D.2.2.1 := (by rw [sc_le] at hc14; omega); subst e9; exact hq)
    · have hn : n < D.2.2.1 := (by rw [sc_le] at hc14; omega)
      have h24 : n < 24 := (by omega)
      have f0 : (M.1 (67 + n) (Int32.toNatClampNeg 0)).toInt = D.2.2.2.1 n 0 := hY.2.2.2.2 n hn 0 (by decide)
      have f2 : (M.1 (67 + n) (Int32.toNatClampNeg 2)).toInt = D.2.2.2.1 n 2 := hY.2.2.2.2 n hn 2 (by decide)
      refine pv_iload (pc := 17) (i := 4) rfl (fm_dec dtX11_changesOf 10 rfl) ?_
      refine pv_aloadn (pc := 19) (n := 0) 0 rfl rfl (fm_dec dtX11_changesOf 11 rfl) ?_
      refine pv_getR (k := 0) (j := 16) (ci := 11) (pc := 20) 19 rfl (by decide) pfl_X11_37 (by decide) rfl (by decide) (fm_dec dtX11_changesOf 12 rfl) ?_
      refine pv_iload (pc := 23) (i := 5) rfl (fm_dec dtX11_changesOf 13 rfl) ?_
      refine pv_aald (k := 19) (n := 24) (r := (67 + n)) (pc := 25) (by decide) (Or.inr (Or.inr rfl)) rfl (rw_fact.inb hi h24) (rw_fact.at hi h24) (rw_fact.2.2.2 _ h24).2.1 (fm_dec dtX11_changesOf 14 rfl) ?_
      refine pv_iconst (pc := 26) (v := 0) (by decide) (fm_dec dtX11_changesOf 15 rfl) ?_
      refine pv_iald (k := (67 + n)) (n := 3) (pc := 27) (rw_fact.2.2.2 _ h24).2.2.1 (rw_fact.2.2.2 _ h24).2.2.2.1 (rw_fact.2.2.2 _ h24).2.2.2.2 (fm_inl (by decide)) (fm_dec dtX11_changesOf 16 rfl) ?_
      refine pv_iloadn (pc := 28) (n := 1) 1 rfl rfl (fm_dec dtX11_changesOf 17 rfl) ?_
      refine pv_icmp_ne (pc := 29) 62 (by decide) (fm_dec dtX11_changesOf 18 rfl) (fun hc29 => ?_) (fun hc29 => ?_)
      · refine pv_iconst (pc := 62) (v := 0) (by decide) (fm_dec dtX11_changesOf 37 rfl) ?_
        refine pv_iadd (pc := 63) (fm_dec dtX11_changesOf 38 rfl) ?_
        refine pv_istore (pc := 64) (i := 4) (by decide) rfl (fm_dec dtX11_changesOf 39 rfl) ?_
        dsimp only [List.set_cons_zero, List.set_cons_succ]
        refine pv_iincc (pc := 66) 5 1 (by decide) rfl (by decide) rfl (fm_dec dtX11_changesOf 40 rfl) ?_
        dsimp only [List.set_cons_zero, List.set_cons_succ]
        refine pv_goto (pc := 69) 6 (by decide) (fm_dec dtX11_changesOf 41 rfl) ?_
        have e9 : cgS D li.toInt a.toInt b.toInt (n + 1) = cgS D li.toInt a.toInt b.toInt n := if_neg (by intro h9; apply hc29; apply i32_ext; omega)
        rw [Int32.add_zero, ← e9]
        exact ih (D.2.2.1 - (n + 1)) (by omega) (n + 1) (i + 1) (i32_p1 hi (by omega)) (by omega) rfl hq
      · refine pv_aloadn (pc := 32) (n := 0) 0 rfl rfl (fm_dec dtX11_changesOf 19 rfl) ?_
        refine pv_getR (k := 0) (j := 16) (ci := 11) (pc := 33) 19 rfl (by decide) pfl_X11_37 (by decide) rfl (by decide) (fm_dec dtX11_changesOf 20 rfl) ?_
        refine pv_iload (pc := 36) (i := 5) rfl (fm_dec dtX11_changesOf 21 rfl) ?_
        refine pv_aald (k := 19) (n := 24) (r := (67 + n)) (pc := 38) (by decide) (Or.inr (Or.inr rfl)) rfl (rw_fact.inb hi h24) (rw_fact.at hi h24) (rw_fact.2.2.2 _ h24).2.1 (fm_dec dtX11_changesOf 22 rfl) ?_
        refine pv_iconst (pc := 39) (v := 2) (by decide) (fm_dec dtX11_changesOf 23 rfl) ?_
        refine pv_iald (k := (67 + n)) (n := 3) (pc := 40) (rw_fact.2.2.2 _ h24).2.2.1 (rw_fact.2.2.2 _ h24).2.2.2.1 (rw_fact.2.2.2 _ h24).2.2.2.2 (fm_inl (by decide)) (fm_dec dtX11_changesOf 24 rfl) ?_
        refine pv_iloadn (pc := 41) (n := 2) 2 rfl rfl (fm_dec dtX11_changesOf 25 rfl) ?_
        refine pv_icmp_le (pc := 42) 62 (by decide) (fm_dec dtX11_changesOf 26 rfl) (fun hc42 => ?_) (fun hc42 => ?_)
        · refine pv_iconst (pc := 62) (v := 0) (by decide) (fm_dec dtX11_changesOf 37 rfl) ?_
          refine pv_iadd (pc := 63) (fm_dec dtX11_changesOf 38 rfl) ?_
          refine pv_istore (pc := 64) (i := 4) (by decide) rfl (fm_dec dtX11_changesOf 39 rfl) ?_
          dsimp only [List.set_cons_zero, List.set_cons_succ]
          refine pv_iincc (pc := 66) 5 1 (by decide) rfl (by decide) rfl (fm_dec dtX11_changesOf 40 rfl) ?_
          dsimp only [List.set_cons_zero, List.set_cons_succ]
          refine pv_goto (pc := 69) 6 (by decide) (fm_dec dtX11_changesOf 41 rfl) ?_
          have e9 : cgS D li.toInt a.toInt b.toInt (n + 1) = cgS D li.toInt a.toInt b.toInt n := if_neg (by intro h9; rw [sc_le] at hc42; omega)
          rw [Int32.add_zero, ← e9]
          exact ih (D.2.2.1 - (n + 1)) (by omega) (n + 1) (i + 1) (i32_p1 hi (by omega)) (by omega) rfl hq
        · refine pv_aloadn (pc := 45) (n := 0) 0 rfl rfl (fm_dec dtX11_changesOf 27 rfl) ?_
          refine pv_getR (k := 0) (j := 16) (ci := 11) (pc := 46) 19 rfl (by decide) pfl_X11_37 (by decide) rfl (by decide) (fm_dec dtX11_changesOf 28 rfl) ?_
          refine pv_iload (pc := 49) (i := 5) rfl (fm_dec dtX11_changesOf 29 rfl) ?_
          refine pv_aald (k := 19) (n := 24) (r := (67 + n)) (pc := 51) (by decide) (Or.inr (Or.inr rfl)) rfl (rw_fact.inb hi h24) (rw_fact.at hi h24) (rw_fact.2.2.2 _ h24).2.1 (fm_dec dtX11_changesOf 30 rfl) ?_
          refine pv_iconst (pc := 52) (v := 2) (by decide) (fm_dec dtX11_changesOf 31 rfl) ?_
          refine pv_iald (k := (67 + n)) (n := 3) (pc := 53) (rw_fact.2.2.2 _ h24).2.2.1 (rw_fact.2.2.2 _ h24).2.2.2.1 (rw_fact.2.2.2 _ h24).2.2.2.2 (fm_inl (by decide)) (fm_dec dtX11_changesOf 32 rfl) ?_
          refine pv_iloadn (pc := 54) (n := 3) 3 rfl rfl (fm_dec dtX11_changesOf 33 rfl) ?_
          refine pv_icmp_gt (pc := 55) 62 (by decide) (fm_dec dtX11_changesOf 34 rfl) (fun hc55 => ?_) (fun hc55 => ?_)
          · refine pv_iconst (pc := 62) (v := 0) (by decide) (fm_dec dtX11_changesOf 37 rfl) ?_
            refine pv_iadd (pc := 63) (fm_dec dtX11_changesOf 38 rfl) ?_
            refine pv_istore (pc := 64) (i := 4) (by decide) rfl (fm_dec dtX11_changesOf 39 rfl) ?_
            dsimp only [List.set_cons_zero, List.set_cons_succ]
            refine pv_iincc (pc := 66) 5 1 (by decide) rfl (by decide) rfl (fm_dec dtX11_changesOf 40 rfl) ?_
            dsimp only [List.set_cons_zero, List.set_cons_succ]
            refine pv_goto (pc := 69) 6 (by decide) (fm_dec dtX11_changesOf 41 rfl) ?_
            have e9 : cgS D li.toInt a.toInt b.toInt (n + 1) = cgS D li.toInt a.toInt b.toInt n := if_neg (by intro h9; rw [sc_lt] at hc55; omega)
            rw [Int32.add_zero, ← e9]
            exact ih (D.2.2.1 - (n + 1)) (by omega) (n + 1) (i + 1) (i32_p1 hi (by omega)) (by omega) rfl hq
          · refine pv_iconst (pc := 58) (v := 1) (by decide) (fm_dec dtX11_changesOf 35 rfl) ?_
            refine pv_goto (pc := 59) 63 (by decide) (fm_dec dtX11_changesOf 36 rfl) ?_
            refine pv_iadd (pc := 63) (fm_dec dtX11_changesOf 38 rfl) ?_
            refine pv_istore (pc := 64) (i := 4) (by decide) rfl (fm_dec dtX11_changesOf 39 rfl) ?_
            dsimp only [List.set_cons_zero, List.set_cons_succ]
            refine pv_iincc (pc := 66) 5 1 (by decide) rfl (by decide) rfl (fm_dec dtX11_changesOf 40 rfl) ?_
            dsimp only [List.set_cons_zero, List.set_cons_succ]
            refine pv_goto (pc := 69) 6 (by decide) (fm_dec dtX11_changesOf 41 rfl) ?_
            have e9 : cgS D li.toInt a.toInt b.toInt (n + 1) = cgS D li.toInt a.toInt b.toInt n + 1 := if_pos ⟨by rw [← f0, hc29], by rw [sc_le] at hc42; omega, by rw [sc_lt] at hc55; omega⟩
            rw [nI_succ1, ← e9]
            exact ih (D.2.2.1 - (n + 1)) (by omega) (n + 1) (i + 1) (i32_p1 hi (by omega)) (by omega) rfl hq
set_option maxRecDepth 20000 in
theorem c_mcg {M : fmM} {Q : fmR → fmM → Prop} {li a b : Int32} {D : dD} (hD : dOk D) (hY : mdw M D) (hq : Q (.inl (some (.int (nI (cgA D li.toInt a.toInt b.toInt))))) M) : pvGood Tm 0 qX11_changesOf [.ref 0, .int li, .int a, .int b] M Q := by
  refine pvGood_of (Nat.le_of_ble_eq_true rfl) ?_
  show pvEv Tm 0 qX11_changesOf 0 [some (.ref 0), some (.int li), some (.int a), some (.int b), none, none] [] M Q
  refine pv_iconst (pc := 0) (v := 0) (by decide) (fm_dec dtX11_changesOf 0 rfl) ?_
  refine pv_istore (pc := 1) (i := 4) (by decide) rfl (fm_dec dtX11_changesOf 1 rfl) ?_
  dsimp only [List.set_cons_zero, List.set_cons_succ]
  refine pv_iconst (pc := 3) (v := 0) (by decide) (fm_dec dtX11_changesOf 2 rfl) ?_
  refine pv_istore (pc := 4) (i := 5) (by decide) rfl (fm_dec dtX11_changesOf 3 rfl) ?_
  dsimp only [List.set_cons_zero, List.set_cons_succ]
  exact mcg_loop hD hY D.2.2.1 0 0 (by decide) (by omega) (by omega) hq
set_option maxRecDepth 20000 in
theorem c_myr {M : fmM} {Q : fmR → fmM → Prop} {D : dD} {i wN : Nat} {w : Int32} (hD : dOk D) (hY : mdw M D) (hi : i < D.1) (hw : w.toInt = (wN : Int)) (hw2 : wN ≤ 300) (hq : Q (.inl (some (.int (nI ((D.2.1 i 0).toNat + wN / 52))))) M) : pvGood Tm 0 qX11_yearsOf [.ref 0, .int (nI i), .int w] M Q := by
  refine pvGood_of (Nat.le_of_ble_eq_true rfl) ?_
  show pvEv Tm 0 qX11_yearsOf 0 [some (.ref 0), some (.int (nI i)), some (.int w)] [] M Q
  have d8 := hD.1
  have hi9 : (nI i).toInt = (i : Int) := nI_toInt (by omega)
  have hi8 : i < 8 := (by omega)
  have b0 := (hD.2.2.1 i hi).1
  have g0 : (M.1 (35 + i) (Int32.toNatClampNeg 0)).toInt = D.2.1 i 0 := hY.2.2.2.1 i hi 0 (by decide)
  have z52 : (52 : Int32).toInt = ((52 : Nat) : Int) := (by decide)
  refine pv_aloadn (pc := 0) (n := 0) 0 rfl rfl (fm_dec dtX11_yearsOf 0 rfl) ?_
  refine pv_getR (k := 0) (j := 14) (ci := 11) (pc := 1) 17 rfl (by decide) pfl_X11_31 (by decide) rfl (by decide) (fm_dec dtX11_yearsOf 1 rfl) ?_
  refine pv_iloadn (pc := 4) (n := 1) 1 rfl rfl (fm_dec dtX11_yearsOf 2 rfl) ?_
  refine pv_aald (k := 17) (n := 8) (r := (35 + i)) (pc := 5) (by decide) (Or.inr (Or.inr rfl)) rfl (rw_life.inb hi9 hi8) (rw_life.at hi9 hi8) (rw_life.2.2.2 _ hi8).2.1 (fm_dec dtX11_yearsOf 3 rfl) ?_
  refine pv_iconst (pc := 6) (v := 0) (by decide) (fm_dec dtX11_yearsOf 4 rfl) ?_
  refine pv_iald (k := (35 + i)) (n := 6) (pc := 7) (rw_life.2.2.2 _ hi8).2.2.1 (rw_life.2.2.2 _ hi8).2.2.2.1 (rw_life.2.2.2 _ hi8).2.2.2.2 (fm_inl (by decide)) (fm_dec dtX11_yearsOf 5 rfl) ?_
  refine pv_iloadn (pc := 8) (n := 2) 2 rfl rfl (fm_dec dtX11_yearsOf 6 rfl) ?_
  refine pv_bipush (pc := 9) (v := 52) (by decide) (fm_dec dtX11_yearsOf 7 rfl) ?_
  refine pv_idiv (pc := 11) (by decide) (fm_dec dtX11_yearsOf 8 rfl) ?_
  refine pv_iadd (pc := 12) (fm_dec dtX11_yearsOf 9 rfl) ?_
  exact pv_ireturn (pc := 13) rfl (fm_dec dtX11_yearsOf 10 rfl) (by have e8 := dv_n hw z52 (by decide) (by omega); have h8 : wN / 52 ≤ wN := Nat.div_le_self _ _; have e7 : (M.1 (35 + i) (Int32.toNatClampNeg 0) + w / 52).toInt = (((D.2.1 i 0).toNat + wN / 52 : Nat) : Int) := (by rw [sc_add (by omega) (by omega)]; omega); rw [nI_is e7 (by omega)]; exact hq)
set_option maxRecDepth 20000 in
theorem c_msd {M : fmM} {Q : fmR → fmM → Prop} {D : dD} {S : aS} {i : Nat} (hD : dOk D) (hY : mdw M D) (hs : mst M D S) (ho : stO D S) (hi : i < D.1) (hq : Q (.inl (some (.int (nI (sdA D S.1.2.2.1 i))))) M) : pvGood Tm 1 qX11_isByDead [.ref 0, .ref 7, .int (nI i)] M Q := by
  refine pvGood_of (Nat.le_of_ble_eq_true rfl) ?_
  show pvEv Tm 1 qX11_isByDead 0 [some (.ref 0), some (.ref 7), some (.int (nI i))] [] M Q
  have d8 := hD.1
  have hi9 : (nI i).toInt = (i : Int) := nI_toInt (by omega)
  have hi8 : i < 8 := (by omega)
  have g5 : (M.1 (35 + i) (Int32.toNatClampNeg 5)).toInt = chB D i := hY.2.2.2.1 i hi 5 (by decide)
  have zm : (-1 : Int32).toInt = -1 := (by decide)
  have ec : D.2.1 i 5 = chB D i := rfl
  have e0 : M.1 7 (Int32.toNatClampNeg 0) = nI S.1.2.2.1 := nI_is hs.1 (by have := ho.2.2.1; omega)
  refine pv_aloadn (pc := 0) (n := 0) 0 rfl rfl (fm_dec dtX11_isByDead 0 rfl) ?_
  refine pv_getR (k := 0) (j := 14) (ci := 11) (pc := 1) 17 rfl (by decide) pfl_X11_31 (by decide) rfl (by decide) (fm_dec dtX11_isByDead 1 rfl) ?_
  refine pv_iloadn (pc := 4) (n := 2) 2 rfl rfl (fm_dec dtX11_isByDead 2 rfl) ?_
  refine pv_aald (k := 17) (n := 8) (r := (35 + i)) (pc := 5) (by decide) (Or.inr (Or.inr rfl)) rfl (rw_life.inb hi9 hi8) (rw_life.at hi9 hi8) (rw_life.2.2.2 _ hi8).2.1 (fm_dec dtX11_isByDead 3 rfl) ?_
  refine pv_iconst (pc := 6) (v := 5) (by decide) (fm_dec dtX11_isByDead 4 rfl) ?_
  refine pv_iald (k := (35 + i)) (n := 6) (pc := 7) (rw_life.2.2.2 _ hi8).2.2.1 (rw_life.2.2.2 _ hi8).2.2.2.1 (rw_life.2.2.2 _ hi8).2.2.2.2 (fm_inl (by decide)) (fm_dec dtX11_isByDead 5 rfl) ?_
  refine pv_iconst (pc := 8) (v := (-1)) (by decide) (fm_dec dtX11_isByDead 6 rfl) ?_
  refine pv_icmp_eq (pc := 9) 33 (by decide) (fm_dec dtX11_isByDead 7 rfl) (fun hc9 => ?_) (fun hc9 => ?_)
  · refine pv_iconst (pc := 33) (v := 0) (by decide) (fm_dec dtX11_isByDead 21 rfl) ?_
    exact pv_ireturn (pc := 34) rfl (fm_dec dtX11_isByDead 22 rfl) (by have h9 := hq; unfold sdA at h9; rw [if_pos (by have h8 := congrArg Int32.toInt hc9; omega)] at h9; exact h9)
  · have hn9 : ¬ chB D i < 0 := (by intro h9; apply hc9; apply i32_ext; have h8 := (hD.2.2.1 i hi).2.2.2.2.2; omega)
    obtain ⟨k, hk, hk8, hkb, hkx⟩ := by_d hD hi g5 hn9
    refine pv_aloadn (pc := 12) (n := 1) 1 rfl rfl (fm_dec dtX11_isByDead 8 rfl) ?_
    refine pv_iconst (pc := 13) (v := 0) (by decide) (fm_dec dtX11_isByDead 9 rfl) ?_
    refine pv_iald (k := 7) (n := 14) (pc := 14) (by decide) rfl rfl (fm_inl (by decide)) (fm_dec dtX11_isByDead 10 rfl) ?_
    refine pv_aloadn (pc := 15) (n := 0) 0 rfl rfl (fm_dec dtX11_isByDead 11 rfl) ?_
    refine pv_getR (k := 0) (j := 14) (ci := 11) (pc := 16) 17 rfl (by decide) pfl_X11_31 (by decide) rfl (by decide) (fm_dec dtX11_isByDead 12 rfl) ?_
    refine pv_iloadn (pc := 19) (n := 2) 2 rfl rfl (fm_dec dtX11_isByDead 13 rfl) ?_
    refine pv_aald (k := 17) (n := 8) (r := (35 + i)) (pc := 20) (by decide) (Or.inr (Or.inr rfl)) rfl (rw_life.inb hi9 hi8) (rw_life.at hi9 hi8) (rw_life.2.2.2 _ hi8).2.1 (fm_dec dtX11_isByDead 14 rfl) ?_
    refine pv_iconst (pc := 21) (v := 5) (by decide) (fm_dec dtX11_isByDead 15 rfl) ?_
    refine pv_iald (k := (35 + i)) (n := 6) (pc := 22) (rw_life.2.2.2 _ hi8).2.2.1 (rw_life.2.2.2 _ hi8).2.2.2.1 (rw_life.2.2.2 _ hi8).2.2.2.2 (fm_inl (by decide)) (fm_dec dtX11_isByDead 16 rfl) ?_
    refine pv_iS2 (d' := 0) (pc := 23) pcs_X11_256 (Nat.le_of_ble_eq_true rfl) (by decide) (fm_dec dtX11_isByDead 17 rfl) ?_
    refine c_has (fun h23 => ?_) (fun h23 => ?_)
    · refine pv_then1 ?_
      refine pv_if_eq (pc := 26) 33 (by decide) (fm_dec dtX11_isByDead 18 rfl) (fun hc26 => by exfalso; revert hc26; decide) (fun _ => ?_)
      refine pv_iconst (pc := 29) (v := 1) (by decide) (fm_dec dtX11_isByDead 19 rfl) ?_
      refine pv_goto (pc := 30) 34 (by decide) (fm_dec dtX11_isByDead 20 rfl) ?_
      exact pv_ireturn (pc := 34) rfl (fm_dec dtX11_isByDead 22 rfl) (by have h9 := hq; unfold sdA at h9; rw [if_neg (by omega), ec, hkb, Int.toNat_natCast, if_pos ((has8 _ ho.2.2.1 k hk8).mp (by rw [← e0, ← hkx]; exact h23))] at h9; exact h9)
    · refine pv_then1 ?_
      refine pv_if_eq (pc := 26) 33 (by decide) (fm_dec dtX11_isByDead 18 rfl) (fun _ => ?_) (fun hc26 => by exfalso; revert hc26; decide)
      refine pv_iconst (pc := 33) (v := 0) (by decide) (fm_dec dtX11_isByDead 21 rfl) ?_
      exact pv_ireturn (pc := 34) rfl (fm_dec dtX11_isByDead 22 rfl) (by have h9 := hq; unfold sdA at h9; rw [if_neg (by omega), ec, hkb, Int.toNat_natCast, if_neg (fun h8 => h23 (by rw [e0, hkx]; exact (has8 _ ho.2.2.1 k hk8).mpr h8))] at h9; exact h9)
set_option maxRecDepth 20000 in
theorem c_mwrgG {M : fmM} {Q : fmR → fmM → Prop} {D : dD} {cs : tC} {S : aS} {i a wN : Nat} {wr w : Int32} (hD : dOk D) (hY : mdw M D) (hL : lwM M cs) (hd : cs = [] ∨ dpB 23 0 cs = some 1) (hs : mst M D S) (ho : stO D S) (hi : i < D.1) (hw : w.toInt = (wN : Int)) (hw2 : wN ≤ 300) (hr : wr.toInt = (wN : Int) - a) (ha : a ≤ 400) (hq : ∀ (M' : fmM) (r : Int32), (∀ k j, k ≠ 5 → k ≠ 6 → M'.1 k j = M.1 k j) → M'.2 = M.2 → r.toInt = wrS D cs S.1.2.2.1 wN i a → Q (.inl (some (.int r))) M') : pvGood Tm 5 qX11_wrongIn [.ref 0, .ref 7, .int (nI i), .int wr, .int w] M Q := by
  refine pvGood_of (Nat.le_of_ble_eq_true rfl) ?_
  show pvEv Tm 5 qX11_wrongIn 0 [some (.ref 0), some (.ref 7), some (.int (nI i)), some (.int wr), some (.int w)] [] M Q
  have d8 := hD.1
  have hi9 : (nI i).toInt = (i : Int) := nI_toInt (by omega)
  have hi8 : i < 8 := (by omega)
  have b2 := (hD.2.2.1 i hi).2.2.1
  have g2 : M.1 (35 + i) (Int32.toNatClampNeg 2) = nI (D.2.1 i 2).toNat := nI_is (by have h9 : (M.1 (35 + i) (Int32.toNatClampNeg 2)).toInt = D.2.1 i 2 := hY.2.2.2.1 i hi 2 (by decide); omega) (by omega)
  have ea : w - wr = nI a := nI_is (by rw [sc_sub (by omega) (by omega)]; omega) (by omega)
  refine pv_aloadn (pc := 0) (n := 0) 0 rfl rfl (fm_dec dtX11_wrongIn 0 rfl) ?_
  refine pv_iload (pc := 1) (i := 4) rfl (fm_dec dtX11_wrongIn 1 rfl) ?_
  refine pv_iloadn (pc := 3) (n := 3) 3 rfl rfl (fm_dec dtX11_wrongIn 2 rfl) ?_
  refine pv_isub (pc := 4) (fm_dec dtX11_wrongIn 3 rfl) ?_
  refine pv_aloadn (pc := 5) (n := 0) 0 rfl rfl (fm_dec dtX11_wrongIn 4 rfl) ?_
  refine pv_iloadn (pc := 6) (n := 2) 2 rfl rfl (fm_dec dtX11_wrongIn 5 rfl) ?_
  refine pv_iload (pc := 7) (i := 4) rfl (fm_dec dtX11_wrongIn 6 rfl) ?_
  refine pv_invV2 (k := 0) (d' := 0) (pc := 9) pcv_X11_263 (by decide) rfl (Nat.le_of_ble_eq_true rfl) (by decide) (fm_dec dtX11_wrongIn 7 rfl) ?_
  refine c_myr hD hY hi hw hw2 ?_
  refine pv_then1 ?_
  refine pv_aloadn (pc := 12) (n := 0) 0 rfl rfl (fm_dec dtX11_wrongIn 8 rfl) ?_
  refine pv_getR (k := 0) (j := 14) (ci := 11) (pc := 13) 17 rfl (by decide) pfl_X11_31 (by decide) rfl (by decide) (fm_dec dtX11_wrongIn 9 rfl) ?_
  refine pv_iloadn (pc := 16) (n := 2) 2 rfl rfl (fm_dec dtX11_wrongIn 10 rfl) ?_
  refine pv_aald (k := 17) (n := 8) (r := (35 + i)) (pc := 17) (by decide) (Or.inr (Or.inr rfl)) rfl (rw_life.inb hi9 hi8) (rw_life.at hi9 hi8) (rw_life.2.2.2 _ hi8).2.1 (fm_dec dtX11_wrongIn 11 rfl) ?_
  refine pv_iconst (pc := 18) (v := 2) (by decide) (fm_dec dtX11_wrongIn 12 rfl) ?_
  refine pv_iald (k := (35 + i)) (n := 6) (pc := 19) (rw_life.2.2.2 _ hi8).2.2.1 (rw_life.2.2.2 _ hi8).2.2.2.1 (rw_life.2.2.2 _ hi8).2.2.2.2 (fm_inl (by decide)) (fm_dec dtX11_wrongIn 13 rfl) ?_
  refine pv_aloadn (pc := 20) (n := 0) 0 rfl rfl (fm_dec dtX11_wrongIn 14 rfl) ?_
  refine pv_aloadn (pc := 21) (n := 1) 1 rfl rfl (fm_dec dtX11_wrongIn 15 rfl) ?_
  refine pv_iloadn (pc := 22) (n := 2) 2 rfl rfl (fm_dec dtX11_wrongIn 16 rfl) ?_
  refine pv_invV2 (k := 0) (d' := 1) (pc := 23) pcv_X11_266 (by decide) rfl (Nat.le_of_ble_eq_true rfl) (by decide) (fm_dec dtX11_wrongIn 17 rfl) ?_
  refine c_msd hD hY hs ho hi ?_
  refine pv_then1 ?_
  refine pv_aloadn (pc := 26) (n := 0) 0 rfl rfl (fm_dec dtX11_wrongIn 18 rfl) ?_
  refine pv_iloadn (pc := 27) (n := 2) 2 rfl rfl (fm_dec dtX11_wrongIn 19 rfl) ?_
  refine pv_iloadn (pc := 28) (n := 3) 3 rfl rfl (fm_dec dtX11_wrongIn 20 rfl) ?_
  refine pv_iload (pc := 29) (i := 4) rfl (fm_dec dtX11_wrongIn 21 rfl) ?_
  refine pv_invV3 (k := 0) (d' := 0) (pc := 31) pcv_X11_270 (by decide) rfl (Nat.le_of_ble_eq_true rfl) (by decide) (fm_dec dtX11_wrongIn 22 rfl) ?_
  refine c_mcg hD hY ?_
  refine pv_then1 ?_
  refine pv_invV5 (k := 0) (d' := 4) (pc := 34) pcv_X11_273 (by decide) rfl (Nat.le_of_ble_eq_true rfl) (by decide) (fm_dec dtX11_wrongIn 23 rfl) ?_
  refine c_mlw hL hd (fun M34 g34 h34 => ?_)
  refine pv_then1 ?_
  exact pv_ireturn (pc := 37) rfl (fm_dec dtX11_wrongIn 24 rfl) (hq M34 _ g34 h34 (by unfold wrS; rw [ea, g2, hi9, hw, hr]))
theorem c_mwrg {M : fmM} {Q : fmR → fmM → Prop} {D : dD} {cs : tC} {S : aS} {i a : Nat} {wr w : Int32} (hD : dOk D) (hY : mdw M D) (hL : lwM M cs) (hd : cs = [] ∨ dpB 23 0 cs = some 1) (hs : mst M D S) (ho : stO D S) (hi : i < D.1) (hw : w.toInt = (S.1.1 : Int)) (hr : wr.toInt = (S.1.1 : Int) - a) (ha : a ≤ 240) (hq : ∀ (M' : fmM) (r : Int32), (∀ k j, k ≠ 5 → k ≠ 6 → M'.1 k j = M.1 k j) → M'.2 = M.2 → r.toInt = wrS D cs S.1.2.2.1 S.1.1 i a → Q (.inl (some (.int r))) M') : pvGood Tm 5 qX11_wrongIn [.ref 0, .ref 7, .int (nI i), .int wr, .int w] M Q := c_mwrgG hD hY hL hd hs ho hi hw (by have := ho.1; omega) hr (by omega) hq
set_option maxRecDepth 20000 in
theorem c_mcoG {M : fmM} {Q : fmR → fmM → Prop} {D : dD} {cs : tC} {S : aS} {i wN : Nat} {ag : Int} {wr w : Int32} (hD : dOk D) (hY : mdw M D) (hL : lwM M cs) (hd : cs = [] ∨ dpB 23 0 cs = some 1) (hs : mst M D S) (ho : stO D S) (hi : i < D.1) (hw : w.toInt = (wN : Int)) (hw2 : wN ≤ 300) (hr : wr.toInt = if ag = -1 then -1000 else (wN : Int) - ag) (ha : -1 ≤ ag ∧ ag ≤ 400) (hq : ∀ (M' : fmM) (r : Int32), (∀ k j, k ≠ 5 → k ≠ 6 → M'.1 k j = M.1 k j) → M'.2 = M.2 → r.toInt = coA D cs S.1.2.2.1 wN i ag → Q (.inl (some (.int r))) M') : pvGood Tm 6 qX11_costIn [.ref 0, .ref 7, .int (nI i), .int wr, .int w] M Q := by
  refine pvGood_of (Nat.le_of_ble_eq_true rfl) ?_
  show pvEv Tm 6 qX11_costIn 0 [some (.ref 0), some (.ref 7), some (.int (nI i)), some (.int wr), some (.int w)] [] M Q
  have d8 := hD.1
  have hi9 : (nI i).toInt = (i : Int) := nI_toInt (by omega)
  have hi8 : i < 8 := (by omega)
  have zm : (-1000 : Int32).toInt = -1000 := (by decide)
  have z64 : (64 : Int32).toInt = 64 := (by decide)
  have b2 := (hD.2.2.1 i hi).2.2.1
  have b3 := hD.2.2.2.2.2.1
  have b4 := hD.2.2.2.2.2.2.1
  have g2 : (M.1 (35 + i) (Int32.toNatClampNeg 2)).toInt = D.2.1 i 2 := hY.2.2.2.1 i hi 2 (by decide)
  have g3 : (M.1 4 (Int32.toNatClampNeg 3)).toInt = D.2.2.2.2 3 := hY.2.2.1 3 (by decide) (by decide)
  have g4 : (M.1 4 (Int32.toNatClampNeg 4)).toInt = D.2.2.2.2 4 := hY.2.2.1 4 (by decide) (by decide)
  refine pv_iloadn (pc := 0) (n := 3) 3 rfl rfl (fm_dec dtX11_costIn 0 rfl) ?_
  refine pv_sipush (pc := 1) (v := (-1000)) (by decide) (fm_dec dtX11_costIn 1 rfl) ?_
  refine pv_icmp_ne (pc := 4) 28 (by decide) (fm_dec dtX11_costIn 2 rfl) (fun hc4 => ?_) (fun hc4 => ?_)
  · have hne : ¬ ag = -1 := (fun h9 => hc4 (i32_ext (by rw [hr, if_pos h9, zm])))
    rw [if_neg hne] at hr
    refine pv_aloadn (pc := 28) (n := 0) 0 rfl rfl (fm_dec dtX11_costIn 17 rfl) ?_
    refine pv_getR (k := 0) (j := 12) (ci := 11) (pc := 29) 4 rfl (by decide) pfl_X11_23 (by decide) rfl (by decide) (fm_dec dtX11_costIn 18 rfl) ?_
    refine pv_iconst (pc := 32) (v := 4) (by decide) (fm_dec dtX11_costIn 19 rfl) ?_
    refine pv_iald (k := 4) (n := 6) (pc := 33) (by decide) rfl rfl (fm_inl (by decide)) (fm_dec dtX11_costIn 20 rfl) ?_
    refine pv_aloadn (pc := 34) (n := 0) 0 rfl rfl (fm_dec dtX11_costIn 21 rfl) ?_
    refine pv_getR (k := 0) (j := 14) (ci := 11) (pc := 35) 17 rfl (by decide) pfl_X11_31 (by decide) rfl (by decide) (fm_dec dtX11_costIn 22 rfl) ?_
    refine pv_iloadn (pc := 38) (n := 2) 2 rfl rfl (fm_dec dtX11_costIn 23 rfl) ?_
    refine pv_aald (k := 17) (n := 8) (r := (35 + i)) (pc := 39) (by decide) (Or.inr (Or.inr rfl)) rfl (rw_life.inb hi9 hi8) (rw_life.at hi9 hi8) (rw_life.2.2.2 _ hi8).2.1 (fm_dec dtX11_costIn 24 rfl) ?_
    refine pv_iconst (pc := 40) (v := 2) (by decide) (fm_dec dtX11_costIn 25 rfl) ?_
    refine pv_iald (k := (35 + i)) (n := 6) (pc := 41) (rw_life.2.2.2 _ hi8).2.2.1 (rw_life.2.2.2 _ hi8).2.2.2.1 (rw_life.2.2.2 _ hi8).2.2.2.2 (fm_inl (by decide)) (fm_dec dtX11_costIn 26 rfl) ?_
    refine pv_imul (pc := 42) (fm_dec dtX11_costIn 27 rfl) ?_
    refine pv_aloadn (pc := 43) (n := 0) 0 rfl rfl (fm_dec dtX11_costIn 28 rfl) ?_
    refine pv_aloadn (pc := 44) (n := 1) 1 rfl rfl (fm_dec dtX11_costIn 29 rfl) ?_
    refine pv_iloadn (pc := 45) (n := 2) 2 rfl rfl (fm_dec dtX11_costIn 30 rfl) ?_
    refine pv_iloadn (pc := 46) (n := 3) 3 rfl rfl (fm_dec dtX11_costIn 31 rfl) ?_
    refine pv_iload (pc := 47) (i := 4) rfl (fm_dec dtX11_costIn 32 rfl) ?_
    refine pv_invV4 (k := 0) (d' := 5) (pc := 49) pcv_X11_276 (by decide) rfl (Nat.le_of_ble_eq_true rfl) (by decide) (fm_dec dtX11_costIn 33 rfl) ?_
    refine c_mwrgG (a := ag.toNat) hD hY hL hd hs ho hi hw hw2 (by omega) (by omega) (fun M49 r49 g49 h49 e49 => ?_)
    refine pv_then1 ?_
    refine pv_imul (pc := 52) (fm_dec dtX11_costIn 34 rfl) ?_
    exact pv_ireturn (pc := 53) rfl (fm_dec dtX11_costIn 35 rfl) (hq M49 _ g49 h49 (by have h1 := mul_b (a := D.2.2.2.2 4) (b := D.2.1 i 2) (m := 9) (n := 99) (by omega) (by omega) (by omega) (by omega); have hw9 := wrS_b (D := D) (cs := cs) (dead := S.1.2.2.1) (w := wN) (i := i) (age := ag.toNat); have h2 := mul_b (a := D.2.2.2.2 4 * D.2.1 i 2) (b := wrS D cs S.1.2.2.1 wN i ag.toNat) (m := 891) (n := 64) (by omega) (by omega) hw9.1 hw9.2; have e1 : (M.1 4 (Int32.toNatClampNeg 4) * M.1 (35 + i) (Int32.toNatClampNeg 2)).toInt = D.2.2.2.2 4 * D.2.1 i 2 := (by rw [sc_mul (by rw [g4, g2]; omega) (by rw [g4, g2]; omega), g4, g2]); rw [sc_mul (by rw [e1, e49]; omega) (by rw [e1, e49]; omega), e1, e49]; unfold coA; rw [if_neg hne]))
  · refine pv_bipush (pc := 7) (v := 64) (by decide) (fm_dec dtX11_costIn 3 rfl) ?_
    refine pv_aloadn (pc := 9) (n := 0) 0 rfl rfl (fm_dec dtX11_costIn 4 rfl) ?_
    refine pv_getR (k := 0) (j := 12) (ci := 11) (pc := 10) 4 rfl (by decide) pfl_X11_23 (by decide) rfl (by decide) (fm_dec dtX11_costIn 5 rfl) ?_
    refine pv_iconst (pc := 13) (v := 3) (by decide) (fm_dec dtX11_costIn 6 rfl) ?_
    refine pv_iald (k := 4) (n := 6) (pc := 14) (by decide) rfl rfl (fm_inl (by decide)) (fm_dec dtX11_costIn 7 rfl) ?_
    refine pv_imul (pc := 15) (fm_dec dtX11_costIn 8 rfl) ?_
    refine pv_aloadn (pc := 16) (n := 0) 0 rfl rfl (fm_dec dtX11_costIn 9 rfl) ?_
    refine pv_getR (k := 0) (j := 14) (ci := 11) (pc := 17) 17 rfl (by decide) pfl_X11_31 (by decide) rfl (by decide) (fm_dec dtX11_costIn 10 rfl) ?_
    refine pv_iloadn (pc := 20) (n := 2) 2 rfl rfl (fm_dec dtX11_costIn 11 rfl) ?_
    refine pv_aald (k := 17) (n := 8) (r := (35 + i)) (pc := 21) (by decide) (Or.inr (Or.inr rfl)) rfl (rw_life.inb hi9 hi8) (rw_life.at hi9 hi8) (rw_life.2.2.2 _ hi8).2.1 (fm_dec dtX11_costIn 12 rfl) ?_
    refine pv_iconst (pc := 22) (v := 2) (by decide) (fm_dec dtX11_costIn 13 rfl) ?_
    refine pv_iald (k := (35 + i)) (n := 6) (pc := 23) (rw_life.2.2.2 _ hi8).2.2.1 (rw_life.2.2.2 _ hi8).2.2.2.1 (rw_life.2.2.2 _ hi8).2.2.2.2 (fm_inl (by decide)) (fm_dec dtX11_costIn 14 rfl) ?_
    refine pv_imul (pc := 24) (fm_dec dtX11_costIn 15 rfl) ?_
    refine pv_goto (pc := 25) 53 (by decide) (fm_dec dtX11_costIn 16 rfl) ?_
    exact pv_ireturn (pc := 53) rfl (fm_dec dtX11_costIn 35 rfl) (hq M _ (fun _ _ _ _ => rfl) rfl (by have hm : ag = -1 := (by have h9 := congrArg Int32.toInt hc4; rw [hr, zm] at h9; split at h9; assumption; omega); have h1 := mul_b (a := 64) (b := D.2.2.2.2 3) (m := 64) (n := 9) (by omega) (by omega) (by omega) (by omega); have h2 := mul_b (a := 64 * D.2.2.2.2 3) (b := D.2.1 i 2) (m := 576) (n := 99) (by omega) (by omega) (by omega) (by omega); have e1 : ((64 : Int32) * M.1 4 (Int32.toNatClampNeg 3)).toInt = 64 * D.2.2.2.2 3 := (by rw [sc_mul (by rw [z64, g3]; omega) (by rw [z64, g3]; omega), z64, g3]); rw [sc_mul (by rw [e1, g2]; omega) (by rw [e1, g2]; omega), e1, g2]; unfold coA; rw [if_pos hm]))
theorem c_mco {M : fmM} {Q : fmR → fmM → Prop} {D : dD} {cs : tC} {S : aS} {i : Nat} {wr w : Int32} (hD : dOk D) (hY : mdw M D) (hL : lwM M cs) (hd : cs = [] ∨ dpB 23 0 cs = some 1) (hs : mst M D S) (ho : stO D S) (hi : i < D.1) (hw : w.toInt = (S.1.1 : Int)) (hr : wr.toInt = if S.2 i = -1 then -1000 else (S.1.1 : Int) - S.2 i) (hq : ∀ (M' : fmM) (r : Int32), (∀ k j, k ≠ 5 → k ≠ 6 → M'.1 k j = M.1 k j) → M'.2 = M.2 → r.toInt = coS D cs S i → Q (.inl (some (.int r))) M') : pvGood Tm 6 qX11_costIn [.ref 0, .ref 7, .int (nI i), .int wr, .int w] M Q := c_mcoG hD hY hL hd hs ho hi hw (by have := ho.1; omega) hr (by have h1 := ho.2.2.2.2.2.2.1 i hi; have h2 := ho.1; omega) hq
