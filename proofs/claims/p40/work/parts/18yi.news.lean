/-- the next change of a life behind week wk, of the first n told -/
def nwS (D : dD) (li wk : Int) : Nat → Int
  | 0 => -1
  | n + 1 => if D.2.2.2.1 n 0 = li ∧ wk < D.2.2.2.1 n 2 ∧ (nwS D li wk n = -1 ∨ D.2.2.2.1 n 2 < nwS D li wk n) then D.2.2.2.1 n 2 else nwS D li wk n
theorem nx_t {D : dD} {li wk : Int} {n : Nat} (h : D.2.2.2.1 n 0 = li ∧ wk < D.2.2.2.1 n 2 ∧ (nwS D li wk n = -1 ∨ D.2.2.2.1 n 2 < nwS D li wk n)) : nwS D li wk (n + 1) = D.2.2.2.1 n 2 := if_pos h
theorem nx_f {D : dD} {li wk : Int} {n : Nat} (h : ¬ (D.2.2.2.1 n 0 = li ∧ wk < D.2.2.2.1 n 2 ∧ (nwS D li wk n = -1 ∨ D.2.2.2.1 n 2 < nwS D li wk n))) : nwS D li wk (n + 1) = nwS D li wk n := if_neg h
set_option maxRecDepth 20000 in
theorem xnx_loop {Q : fmR → fmM → Prop} {M : fmM} {li wk : Int32} {D : dD} (hD : dOk D) (hX : xdw 3 M D) : ∀ (m : Nat) (n : Nat) (b i : Int32) (v5 : Option Value), i.toInt = (n : Int) → n ≤ D.2.2.1 → D.2.2.1 - n = m → b.toInt = nwS D li.toInt wk.toInt n → (∀ r : Int32, r.toInt = nwS D li.toInt wk.toInt D.2.2.1 → Q (.inl (some (.int r))) M) → pvEv Tx 40 qX8_nextChange 5 [some (.ref 3), some (.int li), some (.int wk), some (.int b), some (.int i), v5] [] M Q := by
  intro m
  induction m using Nat.strongRecOn with
  | _ m ih =>
    intro n b i v5 hi hnD hm hb hq
    have c10 : (M.1 3 10).toInt = (D.2.2.1 : Int) := hX.1.2.1
    have d24 := hD.2.1
    refine pv_iload (pc := 5) (i := 4) rfl (fm_dec dtX8_nextChange 4 rfl) ?_
    refine pv_aloadn (pc := 7) (n := 0) 0 rfl rfl (fm_dec dtX8_nextChange 5 rfl) ?_
    refine pv_getI (k := 3) (j := 10) (ci := 8) (pc := 8) pfl_X8_46 (by decide) rfl (by decide) (fm_dec dtX8_nextChange 6 rfl) ?_
    refine pv_icmp_ge (pc := 11) 78 (by decide) (fm_dec dtX8_nextChange 7 rfl) (fun hc11 => ?_) (fun hc11 => ?_)
    · refine pv_iloadn (pc := 78) (n := 3) 3 rfl rfl (fm_dec dtX8_nextChange 42 rfl) ?_
      exact pv_ireturn (pc := 79) rfl (fm_dec dtX8_nextChange 43 rfl) (by have e9 : n = D.2.2.1 := (by rw [sc_le] at hc11; omega); subst e9; exact hq _ hb)
    · have hn : n < D.2.2.1 := (by rw [sc_le] at hc11; omega)
      have f0 : (M.1 10 n).toInt = D.2.2.2.1 n 0 := hX.2.2 n hn 0 (by decide)
      have f2 : (M.1 12 n).toInt = D.2.2.2.1 n 2 := hX.2.2 n hn 2 (by decide)
      refine pv_aloadn (pc := 14) (n := 0) 0 rfl rfl (fm_dec dtX8_nextChange 8 rfl) ?_
      refine pv_getR (k := 3) (j := 6) (ci := 8) (pc := 15) 10 rfl (by decide) pfl_X8_30 (by decide) rfl (by decide) (fm_dec dtX8_nextChange 9 rfl) ?_
      refine pv_iload (pc := 18) (i := 4) rfl (fm_dec dtX8_nextChange 10 rfl) ?_
      refine pv_iald (k := 10) (n := 24) (pc := 20) (by decide) rfl rfl (ix_in hi (by omega)) (fm_dec dtX8_nextChange 11 rfl) ?_
      rw [i32_cl hi]
      refine pv_iloadn (pc := 21) (n := 1) 1 rfl rfl (fm_dec dtX8_nextChange 12 rfl) ?_
      refine pv_icmp_ne (pc := 22) 40 (by decide) (fm_dec dtX8_nextChange 13 rfl) (fun hc22 => ?_) (fun hc22 => ?_)
      · refine pv_iconst (pc := 40) (v := 0) (by decide) (fm_dec dtX8_nextChange 22 rfl) ?_
        refine pv_istore (pc := 41) (i := 5) (by decide) rfl (fm_dec dtX8_nextChange 23 rfl) ?_
        dsimp only [List.set_cons_zero, List.set_cons_succ]
        refine pv_iload (pc := 43) (i := 5) rfl (fm_dec dtX8_nextChange 24 rfl) ?_
        refine pv_if_eq (pc := 45) 72 (by decide) (fm_dec dtX8_nextChange 25 rfl) (fun _ => ?_) (fun hc45 => by exfalso; revert hc45; decide)
        refine pv_iincc (pc := 72) 4 1 (by decide) rfl (by decide) rfl (fm_dec dtX8_nextChange 40 rfl) ?_
        dsimp only [List.set_cons_zero, List.set_cons_succ]
        refine pv_goto (pc := 75) 5 (by decide) (fm_dec dtX8_nextChange 41 rfl) ?_
        have zm : (-1 : Int32).toInt = -1 := (by decide)
        have e9 : nwS D li.toInt wk.toInt (n + 1) = _ := nx_f (by rintro ⟨a, -⟩; exact hc22 (i32_ext (f0.trans a)))
        exact ih (D.2.2.1 - (n + 1)) (by omega) (n + 1) _ (i + 1) _ (i32_p1 hi (by omega)) (by omega) rfl (by rw [e9]; exact hb) hq
      · refine pv_aloadn (pc := 25) (n := 0) 0 rfl rfl (fm_dec dtX8_nextChange 14 rfl) ?_
        refine pv_getR (k := 3) (j := 8) (ci := 8) (pc := 26) 12 rfl (by decide) pfl_X8_36 (by decide) rfl (by decide) (fm_dec dtX8_nextChange 15 rfl) ?_
        refine pv_iload (pc := 29) (i := 4) rfl (fm_dec dtX8_nextChange 16 rfl) ?_
        refine pv_iald (k := 12) (n := 24) (pc := 31) (by decide) rfl rfl (ix_in hi (by omega)) (fm_dec dtX8_nextChange 17 rfl) ?_
        rw [i32_cl hi]
        refine pv_iloadn (pc := 32) (n := 2) 2 rfl rfl (fm_dec dtX8_nextChange 18 rfl) ?_
        refine pv_icmp_le (pc := 33) 40 (by decide) (fm_dec dtX8_nextChange 19 rfl) (fun hc33 => ?_) (fun hc33 => ?_)
        · refine pv_iconst (pc := 40) (v := 0) (by decide) (fm_dec dtX8_nextChange 22 rfl) ?_
          refine pv_istore (pc := 41) (i := 5) (by decide) rfl (fm_dec dtX8_nextChange 23 rfl) ?_
          dsimp only [List.set_cons_zero, List.set_cons_succ]
          refine pv_iload (pc := 43) (i := 5) rfl (fm_dec dtX8_nextChange 24 rfl) ?_
          refine pv_if_eq (pc := 45) 72 (by decide) (fm_dec dtX8_nextChange 25 rfl) (fun _ => ?_) (fun hc45 => by exfalso; revert hc45; decide)
          refine pv_iincc (pc := 72) 4 1 (by decide) rfl (by decide) rfl (fm_dec dtX8_nextChange 40 rfl) ?_
          dsimp only [List.set_cons_zero, List.set_cons_succ]
          refine pv_goto (pc := 75) 5 (by decide) (fm_dec dtX8_nextChange 41 rfl) ?_
          have zm : (-1 : Int32).toInt = -1 := (by decide)
          have e9 : nwS D li.toInt wk.toInt (n + 1) = _ := nx_f (by rintro ⟨-, a, -⟩; rw [sc_le] at hc33; omega)
          exact ih (D.2.2.1 - (n + 1)) (by omega) (n + 1) _ (i + 1) _ (i32_p1 hi (by omega)) (by omega) rfl (by rw [e9]; exact hb) hq
        · refine pv_iconst (pc := 36) (v := 1) (by decide) (fm_dec dtX8_nextChange 20 rfl) ?_
          refine pv_goto (pc := 37) 41 (by decide) (fm_dec dtX8_nextChange 21 rfl) ?_
          refine pv_istore (pc := 41) (i := 5) (by decide) rfl (fm_dec dtX8_nextChange 23 rfl) ?_
          dsimp only [List.set_cons_zero, List.set_cons_succ]
          refine pv_iload (pc := 43) (i := 5) rfl (fm_dec dtX8_nextChange 24 rfl) ?_
          refine pv_if_eq (pc := 45) 72 (by decide) (fm_dec dtX8_nextChange 25 rfl) (fun hc45 => by exfalso; revert hc45; decide) (fun _ => ?_)
          refine pv_iloadn (pc := 48) (n := 3) 3 rfl rfl (fm_dec dtX8_nextChange 26 rfl) ?_
          refine pv_iconst (pc := 49) (v := (-1)) (by decide) (fm_dec dtX8_nextChange 27 rfl) ?_
          refine pv_icmp_eq (pc := 50) 64 (by decide) (fm_dec dtX8_nextChange 28 rfl) (fun hc50 => ?_) (fun hc50 => ?_)
          · refine pv_aloadn (pc := 64) (n := 0) 0 rfl rfl (fm_dec dtX8_nextChange 35 rfl) ?_
            refine pv_getR (k := 3) (j := 8) (ci := 8) (pc := 65) 12 rfl (by decide) pfl_X8_36 (by decide) rfl (by decide) (fm_dec dtX8_nextChange 36 rfl) ?_
            refine pv_iload (pc := 68) (i := 4) rfl (fm_dec dtX8_nextChange 37 rfl) ?_
            refine pv_iald (k := 12) (n := 24) (pc := 70) (by decide) rfl rfl (ix_in hi (by omega)) (fm_dec dtX8_nextChange 38 rfl) ?_
            rw [i32_cl hi]
            refine pv_istoren (pc := 71) (n := 3) 3 rfl (by decide) rfl (fm_dec dtX8_nextChange 39 rfl) ?_
            dsimp only [List.set_cons_zero, List.set_cons_succ]
            refine pv_iincc (pc := 72) 4 1 (by decide) rfl (by decide) rfl (fm_dec dtX8_nextChange 40 rfl) ?_
            dsimp only [List.set_cons_zero, List.set_cons_succ]
            refine pv_goto (pc := 75) 5 (by decide) (fm_dec dtX8_nextChange 41 rfl) ?_
            have zm : (-1 : Int32).toInt = -1 := (by decide)
            have e9 : nwS D li.toInt wk.toInt (n + 1) = _ := nx_t ⟨by rw [← f0, hc22], by rw [sc_le] at hc33; omega, Or.inl (by rw [← hb, hc50]; exact zm)⟩
            exact ih (D.2.2.1 - (n + 1)) (by omega) (n + 1) _ (i + 1) _ (i32_p1 hi (by omega)) (by omega) rfl (by rw [e9]; exact f2) hq
          · refine pv_aloadn (pc := 53) (n := 0) 0 rfl rfl (fm_dec dtX8_nextChange 29 rfl) ?_
            refine pv_getR (k := 3) (j := 8) (ci := 8) (pc := 54) 12 rfl (by decide) pfl_X8_36 (by decide) rfl (by decide) (fm_dec dtX8_nextChange 30 rfl) ?_
            refine pv_iload (pc := 57) (i := 4) rfl (fm_dec dtX8_nextChange 31 rfl) ?_
            refine pv_iald (k := 12) (n := 24) (pc := 59) (by decide) rfl rfl (ix_in hi (by omega)) (fm_dec dtX8_nextChange 32 rfl) ?_
            rw [i32_cl hi]
            refine pv_iloadn (pc := 60) (n := 3) 3 rfl rfl (fm_dec dtX8_nextChange 33 rfl) ?_
            refine pv_icmp_ge (pc := 61) 72 (by decide) (fm_dec dtX8_nextChange 34 rfl) (fun hc61 => ?_) (fun hc61 => ?_)
            · refine pv_iincc (pc := 72) 4 1 (by decide) rfl (by decide) rfl (fm_dec dtX8_nextChange 40 rfl) ?_
              dsimp only [List.set_cons_zero, List.set_cons_succ]
              refine pv_goto (pc := 75) 5 (by decide) (fm_dec dtX8_nextChange 41 rfl) ?_
              have zm : (-1 : Int32).toInt = -1 := (by decide)
              have e9 : nwS D li.toInt wk.toInt (n + 1) = _ := nx_f (by rintro ⟨-, -, a | a⟩; exact hc50 (i32_ext (hb.trans (a.trans zm.symm))); (rw [sc_le] at hc61; omega))
              exact ih (D.2.2.1 - (n + 1)) (by omega) (n + 1) _ (i + 1) _ (i32_p1 hi (by omega)) (by omega) rfl (by rw [e9]; exact hb) hq
            · refine pv_aloadn (pc := 64) (n := 0) 0 rfl rfl (fm_dec dtX8_nextChange 35 rfl) ?_
              refine pv_getR (k := 3) (j := 8) (ci := 8) (pc := 65) 12 rfl (by decide) pfl_X8_36 (by decide) rfl (by decide) (fm_dec dtX8_nextChange 36 rfl) ?_
              refine pv_iload (pc := 68) (i := 4) rfl (fm_dec dtX8_nextChange 37 rfl) ?_
              refine pv_iald (k := 12) (n := 24) (pc := 70) (by decide) rfl rfl (ix_in hi (by omega)) (fm_dec dtX8_nextChange 38 rfl) ?_
              rw [i32_cl hi]
              refine pv_istoren (pc := 71) (n := 3) 3 rfl (by decide) rfl (fm_dec dtX8_nextChange 39 rfl) ?_
              dsimp only [List.set_cons_zero, List.set_cons_succ]
              refine pv_iincc (pc := 72) 4 1 (by decide) rfl (by decide) rfl (fm_dec dtX8_nextChange 40 rfl) ?_
              dsimp only [List.set_cons_zero, List.set_cons_succ]
              refine pv_goto (pc := 75) 5 (by decide) (fm_dec dtX8_nextChange 41 rfl) ?_
              have zm : (-1 : Int32).toInt = -1 := (by decide)
              have e9 : nwS D li.toInt wk.toInt (n + 1) = _ := nx_t ⟨by rw [← f0, hc22], by rw [sc_le] at hc33; omega, Or.inr (by rw [sc_le] at hc61; omega)⟩
              exact ih (D.2.2.1 - (n + 1)) (by omega) (n + 1) _ (i + 1) _ (i32_p1 hi (by omega)) (by omega) rfl (by rw [e9]; exact f2) hq
set_option maxRecDepth 20000 in
theorem c_xnx {M : fmM} {Q : fmR → fmM → Prop} {li wk : Int32} {D : dD} (hD : dOk D) (hX : xdw 3 M D) (hq : ∀ r : Int32, r.toInt = nwS D li.toInt wk.toInt D.2.2.1 → Q (.inl (some (.int r))) M) : pvGood Tx 40 qX8_nextChange [.ref 3, .int li, .int wk] M Q := by
  refine pvGood_of (Nat.le_of_ble_eq_true rfl) ?_
  show pvEv Tx 40 qX8_nextChange 0 [some (.ref 3), some (.int li), some (.int wk), none, none, none] [] M Q
  refine pv_iconst (pc := 0) (v := (-1)) (by decide) (fm_dec dtX8_nextChange 0 rfl) ?_
  refine pv_istoren (pc := 1) (n := 3) 3 rfl (by decide) rfl (fm_dec dtX8_nextChange 1 rfl) ?_
  dsimp only [List.set_cons_zero, List.set_cons_succ]
  refine pv_iconst (pc := 2) (v := 0) (by decide) (fm_dec dtX8_nextChange 2 rfl) ?_
  refine pv_istore (pc := 3) (i := 4) (by decide) rfl (fm_dec dtX8_nextChange 3 rfl) ?_
  dsimp only [List.set_cons_zero, List.set_cons_succ]
  exact xnx_loop hD hX D.2.2.1 0 _ _ _ (by decide) (by omega) (by omega) (by show (-1 : Int32).toInt = (-1 : Int); decide) hq
set_option maxRecDepth 20000 in
theorem c_xnews {M : fmM} {Q : fmR → fmM → Prop} {D : dD} {cs : tC} {S : aS} {x : Int32} (h : xAq M D cs S) (hn1 : ¬ inL D x → Q (.inr fmNSE) (fmI M 0 15 (M.1 0 15 + 1))) (hq : inL D x → ∀ (r : Int32) (M' : fmM), r.toInt = nwS D x.toInt (S.1.1 : Int) D.2.2.1 → Q (.inl (some (.int r))) M') : pvGood Tx 41 qX10_news [.ref 0, .int x] M Q := by
  refine pvGood_of (Nat.le_of_ble_eq_true rfl) ?_
  show pvEv Tx 41 qX10_news 0 [some (.ref 0), some (.int x)] [] M Q
  have hxq := h
  obtain ⟨hD, hX, hL, hs, ho⟩ := h
  have d8 := hD.1
  have hl9 : (M.1 3 9).toInt = (D.1 : Int) := hX.1.1
  have g2 := hs.2.1
  refine pv_aloadn (pc := 0) (n := 0) 0 rfl rfl (fm_dec dtX10_news 0 rfl) ?_
  refine pv_iloadn (pc := 1) (n := 1) 1 rfl rfl (fm_dec dtX10_news 1 rfl) ?_
  refine pv_invV1 (k := 0) (d' := 0) (pc := 2) pcv_X10_197 (by decide) rfl (Nat.le_of_ble_eq_true rfl) (by decide) (fm_dec dtX10_news 2 rfl) ?_
  refine c_needL (fun h2a h2b => ?_) (fun h2 => ?_)
  · refine pv_then0 ?_
    refine pv_aloadn (pc := 5) (n := 0) 0 rfl rfl (fm_dec dtX10_news 3 rfl) ?_
    refine pv_getR (k := 0) (j := 1) (ci := 10) (pc := 6) 3 rfl (by decide) pfl_X10_19 (by decide) rfl (by decide) (fm_dec dtX10_news 4 rfl) ?_
    refine pv_iloadn (pc := 9) (n := 1) 1 rfl rfl (fm_dec dtX10_news 5 rfl) ?_
    refine pv_aloadn (pc := 10) (n := 0) 0 rfl rfl (fm_dec dtX10_news 6 rfl) ?_
    refine pv_getR (k := 0) (j := 9) (ci := 10) (pc := 11) 46 rfl (by decide) pfl_X10_75 (by decide) rfl (by decide) (fm_dec dtX10_news 7 rfl) ?_
    refine pv_getR (k := 46) (j := 0) (ci := 5) (pc := 14) 47 rfl (by decide) pfl_X10_90 (by decide) rfl (by decide) (fm_dec dtX10_news 8 rfl) ?_
    refine pv_getI (k := 47) (j := 2) (ci := 6) (pc := 17) pfl_X10_173 (by decide) rfl (by decide) (fm_dec dtX10_news 9 rfl) ?_
    refine pv_invV2 (k := 3) (d' := 40) (pc := 20) pcv_X10_283 (by decide) rfl (Nat.le_of_ble_eq_true rfl) (by decide) (fm_dec dtX10_news 10 rfl) ?_
    refine c_xnx hD hX (fun r20 e20 => ?_)
    refine pv_then1 ?_
    exact pv_ireturn (pc := 23) rfl (fm_dec dtX10_news 11 rfl) (hq ⟨h2a, by omega⟩ _ _ (by rw [← g2]; exact e20))
  · refine pv_thenX ?_
    exact hn1 (fun h8 => h2 ⟨h8.1, by have := h8.2; omega⟩)
set_option maxRecDepth 20000 in
theorem mnx_loop {Q : fmR → fmM → Prop} {M : fmM} {x : Int32} {D : dD} {S : aS} (hD : dOk D) (hY : mdw M D) (ht : mst M D S) (z : M.1 0 0 = 0) : ∀ (m : Nat) (n : Nat) (b i : Int32), i.toInt = (n : Int) → n ≤ D.2.2.1 → D.2.2.1 - n = m → b.toInt = nwS D x.toInt (S.1.1 : Int) n → (∀ (r : Int32) (M' : fmM), M'.1 0 0 = 0 → r.toInt = nwS D x.toInt (S.1.1 : Int) D.2.2.1 → Q (.inl (some (.int r))) M') → pvEv Tm 40 qX11_news 33 [some (.ref 0), some (.int x), some (.int b), some (.int i)] [] M Q := by
  intro m
  induction m using Nat.strongRecOn with
  | _ m ih =>
    intro n b i hi hnD hm hb hq
    have c10 : (M.1 4 (Int32.toNatClampNeg 1)).toInt = (D.2.2.1 : Int) := hY.2.1
    have d24 := hD.2.1
    refine pv_iloadn (pc := 33) (n := 3) 3 rfl rfl (fm_dec dtX11_news 21 rfl) ?_
    refine pv_aloadn (pc := 34) (n := 0) 0 rfl rfl (fm_dec dtX11_news 22 rfl) ?_
    refine pv_getR (k := 0) (j := 12) (ci := 11) (pc := 35) 4 rfl (by decide) pfl_X11_23 (by decide) rfl (by decide) (fm_dec dtX11_news 23 rfl) ?_
    refine pv_iconst (pc := 38) (v := 1) (by decide) (fm_dec dtX11_news 24 rfl) ?_
    refine pv_iald (k := 4) (n := 6) (pc := 39) (by decide) rfl rfl (fm_inl (by decide)) (fm_dec dtX11_news 25 rfl) ?_
    refine pv_icmp_ge (pc := 40) 105 (by decide) (fm_dec dtX11_news 26 rfl) (fun hc40 => ?_) (fun hc40 => ?_)
    · refine pv_iloadn (pc := 105) (n := 2) 2 rfl rfl (fm_dec dtX11_news 66 rfl) ?_
      exact pv_ireturn (pc := 106) rfl (fm_dec dtX11_news 67 rfl) (by have e9 : n = D.2.2.1 := (by rw [sc_le] at hc40; omega); subst e9; exact hq _ _ z hb)
    · have hn : n < D.2.2.1 := (by rw [sc_le] at hc40; omega)
      have h24 : n < 24 := (by omega)
      have f0 : (M.1 (67 + n) (Int32.toNatClampNeg 0)).toInt = D.2.2.2.1 n 0 := hY.2.2.2.2 n hn 0 (by decide)
      have f2 : (M.1 (67 + n) (Int32.toNatClampNeg 2)).toInt = D.2.2.2.1 n 2 := hY.2.2.2.2 n hn 2 (by decide)
      have g2 : (M.1 7 (Int32.toNatClampNeg 10)).toInt = (S.1.1 : Int) := ht.2.1
      refine pv_aloadn (pc := 43) (n := 0) 0 rfl rfl (fm_dec dtX11_news 27 rfl) ?_
      refine pv_getR (k := 0) (j := 16) (ci := 11) (pc := 44) 19 rfl (by decide) pfl_X11_37 (by decide) rfl (by decide) (fm_dec dtX11_news 28 rfl) ?_
      refine pv_iloadn (pc := 47) (n := 3) 3 rfl rfl (fm_dec dtX11_news 29 rfl) ?_
      refine pv_aald (k := 19) (n := 24) (r := (67 + n)) (pc := 48) (by decide) (Or.inr (Or.inr rfl)) rfl (rw_fact.inb hi h24) (rw_fact.at hi h24) (rw_fact.2.2.2 _ h24).2.1 (fm_dec dtX11_news 30 rfl) ?_
      refine pv_iconst (pc := 49) (v := 0) (by decide) (fm_dec dtX11_news 31 rfl) ?_
      refine pv_iald (k := (67 + n)) (n := 3) (pc := 50) (rw_fact.2.2.2 _ h24).2.2.1 (rw_fact.2.2.2 _ h24).2.2.2.1 (rw_fact.2.2.2 _ h24).2.2.2.2 (fm_inl (by decide)) (fm_dec dtX11_news 32 rfl) ?_
      refine pv_iloadn (pc := 51) (n := 1) 1 rfl rfl (fm_dec dtX11_news 33 rfl) ?_
      refine pv_icmp_ne (pc := 52) 99 (by decide) (fm_dec dtX11_news 34 rfl) (fun hc52 => ?_) (fun hc52 => ?_)
      · refine pv_iincc (pc := 99) 3 1 (by decide) rfl (by decide) rfl (fm_dec dtX11_news 64 rfl) ?_
        dsimp only [List.set_cons_zero, List.set_cons_succ]
        refine pv_goto (pc := 102) 33 (by decide) (fm_dec dtX11_news 65 rfl) ?_
        have zm : (-1 : Int32).toInt = -1 := (by decide)
        have e9 : nwS D x.toInt (S.1.1 : Int) (n + 1) = _ := nx_f (by rintro ⟨a, -⟩; exact hc52 (i32_ext (f0.trans a)))
        exact ih (D.2.2.1 - (n + 1)) (by omega) (n + 1) _ (i + 1) (i32_p1 hi (by omega)) (by omega) rfl (by rw [e9]; exact hb) hq
      · refine pv_aloadn (pc := 55) (n := 0) 0 rfl rfl (fm_dec dtX11_news 35 rfl) ?_
        refine pv_getR (k := 0) (j := 16) (ci := 11) (pc := 56) 19 rfl (by decide) pfl_X11_37 (by decide) rfl (by decide) (fm_dec dtX11_news 36 rfl) ?_
        refine pv_iloadn (pc := 59) (n := 3) 3 rfl rfl (fm_dec dtX11_news 37 rfl) ?_
        refine pv_aald (k := 19) (n := 24) (r := (67 + n)) (pc := 60) (by decide) (Or.inr (Or.inr rfl)) rfl (rw_fact.inb hi h24) (rw_fact.at hi h24) (rw_fact.2.2.2 _ h24).2.1 (fm_dec dtX11_news 38 rfl) ?_
        refine pv_iconst (pc := 61) (v := 2) (by decide) (fm_dec dtX11_news 39 rfl) ?_
        refine pv_iald (k := (67 + n)) (n := 3) (pc := 62) (rw_fact.2.2.2 _ h24).2.2.1 (rw_fact.2.2.2 _ h24).2.2.2.1 (rw_fact.2.2.2 _ h24).2.2.2.2 (fm_inl (by decide)) (fm_dec dtX11_news 40 rfl) ?_
        refine pv_aloadn (pc := 63) (n := 0) 0 rfl rfl (fm_dec dtX11_news 41 rfl) ?_
        refine pv_getR (k := 0) (j := 27) (ci := 11) (pc := 64) 7 rfl (by decide) pfl_X11_61 (by decide) rfl (by decide) (fm_dec dtX11_news 42 rfl) ?_
        refine pv_bipush (pc := 67) (v := 10) (by decide) (fm_dec dtX11_news 43 rfl) ?_
        refine pv_iald (k := 7) (n := 14) (pc := 69) (by decide) rfl rfl (fm_inl (by decide)) (fm_dec dtX11_news 44 rfl) ?_
        refine pv_icmp_le (pc := 70) 99 (by decide) (fm_dec dtX11_news 45 rfl) (fun hc70 => ?_) (fun hc70 => ?_)
        · refine pv_iincc (pc := 99) 3 1 (by decide) rfl (by decide) rfl (fm_dec dtX11_news 64 rfl) ?_
          dsimp only [List.set_cons_zero, List.set_cons_succ]
          refine pv_goto (pc := 102) 33 (by decide) (fm_dec dtX11_news 65 rfl) ?_
          have zm : (-1 : Int32).toInt = -1 := (by decide)
          have e9 : nwS D x.toInt (S.1.1 : Int) (n + 1) = _ := nx_f (by rintro ⟨-, a, -⟩; rw [sc_le] at hc70; omega)
          exact ih (D.2.2.1 - (n + 1)) (by omega) (n + 1) _ (i + 1) (i32_p1 hi (by omega)) (by omega) rfl (by rw [e9]; exact hb) hq
        · refine pv_iloadn (pc := 73) (n := 2) 2 rfl rfl (fm_dec dtX11_news 46 rfl) ?_
          refine pv_iconst (pc := 74) (v := (-1)) (by decide) (fm_dec dtX11_news 47 rfl) ?_
          refine pv_icmp_eq (pc := 75) 90 (by decide) (fm_dec dtX11_news 48 rfl) (fun hc75 => ?_) (fun hc75 => ?_)
          · refine pv_aloadn (pc := 90) (n := 0) 0 rfl rfl (fm_dec dtX11_news 57 rfl) ?_
            refine pv_getR (k := 0) (j := 16) (ci := 11) (pc := 91) 19 rfl (by decide) pfl_X11_37 (by decide) rfl (by decide) (fm_dec dtX11_news 58 rfl) ?_
            refine pv_iloadn (pc := 94) (n := 3) 3 rfl rfl (fm_dec dtX11_news 59 rfl) ?_
            refine pv_aald (k := 19) (n := 24) (r := (67 + n)) (pc := 95) (by decide) (Or.inr (Or.inr rfl)) rfl (rw_fact.inb hi h24) (rw_fact.at hi h24) (rw_fact.2.2.2 _ h24).2.1 (fm_dec dtX11_news 60 rfl) ?_
            refine pv_iconst (pc := 96) (v := 2) (by decide) (fm_dec dtX11_news 61 rfl) ?_
            refine pv_iald (k := (67 + n)) (n := 3) (pc := 97) (rw_fact.2.2.2 _ h24).2.2.1 (rw_fact.2.2.2 _ h24).2.2.2.1 (rw_fact.2.2.2 _ h24).2.2.2.2 (fm_inl (by decide)) (fm_dec dtX11_news 62 rfl) ?_
            refine pv_istoren (pc := 98) (n := 2) 2 rfl (by decide) rfl (fm_dec dtX11_news 63 rfl) ?_
            dsimp only [List.set_cons_zero, List.set_cons_succ]
            refine pv_iincc (pc := 99) 3 1 (by decide) rfl (by decide) rfl (fm_dec dtX11_news 64 rfl) ?_
            dsimp only [List.set_cons_zero, List.set_cons_succ]
            refine pv_goto (pc := 102) 33 (by decide) (fm_dec dtX11_news 65 rfl) ?_
            have zm : (-1 : Int32).toInt = -1 := (by decide)
            have e9 : nwS D x.toInt (S.1.1 : Int) (n + 1) = _ := nx_t ⟨by rw [← f0, hc52], by rw [sc_le] at hc70; omega, Or.inl (by rw [← hb, hc75]; exact zm)⟩
            exact ih (D.2.2.1 - (n + 1)) (by omega) (n + 1) _ (i + 1) (i32_p1 hi (by omega)) (by omega) rfl (by rw [e9]; exact f2) hq
          · refine pv_aloadn (pc := 78) (n := 0) 0 rfl rfl (fm_dec dtX11_news 49 rfl) ?_
            refine pv_getR (k := 0) (j := 16) (ci := 11) (pc := 79) 19 rfl (by decide) pfl_X11_37 (by decide) rfl (by decide) (fm_dec dtX11_news 50 rfl) ?_
            refine pv_iloadn (pc := 82) (n := 3) 3 rfl rfl (fm_dec dtX11_news 51 rfl) ?_
            refine pv_aald (k := 19) (n := 24) (r := (67 + n)) (pc := 83) (by decide) (Or.inr (Or.inr rfl)) rfl (rw_fact.inb hi h24) (rw_fact.at hi h24) (rw_fact.2.2.2 _ h24).2.1 (fm_dec dtX11_news 52 rfl) ?_
            refine pv_iconst (pc := 84) (v := 2) (by decide) (fm_dec dtX11_news 53 rfl) ?_
            refine pv_iald (k := (67 + n)) (n := 3) (pc := 85) (rw_fact.2.2.2 _ h24).2.2.1 (rw_fact.2.2.2 _ h24).2.2.2.1 (rw_fact.2.2.2 _ h24).2.2.2.2 (fm_inl (by decide)) (fm_dec dtX11_news 54 rfl) ?_
            refine pv_iloadn (pc := 86) (n := 2) 2 rfl rfl (fm_dec dtX11_news 55 rfl) ?_
            refine pv_icmp_ge (pc := 87) 99 (by decide) (fm_dec dtX11_news 56 rfl) (fun hc87 => ?_) (fun hc87 => ?_)
            · refine pv_iincc (pc := 99) 3 1 (by decide) rfl (by decide) rfl (fm_dec dtX11_news 64 rfl) ?_
              dsimp only [List.set_cons_zero, List.set_cons_succ]
              refine pv_goto (pc := 102) 33 (by decide) (fm_dec dtX11_news 65 rfl) ?_
              have zm : (-1 : Int32).toInt = -1 := (by decide)
              have e9 : nwS D x.toInt (S.1.1 : Int) (n + 1) = _ := nx_f (by rintro ⟨-, -, a | a⟩; exact hc75 (i32_ext (hb.trans (a.trans zm.symm))); (rw [sc_le] at hc87; omega))
              exact ih (D.2.2.1 - (n + 1)) (by omega) (n + 1) _ (i + 1) (i32_p1 hi (by omega)) (by omega) rfl (by rw [e9]; exact hb) hq
            · refine pv_aloadn (pc := 90) (n := 0) 0 rfl rfl (fm_dec dtX11_news 57 rfl) ?_
              refine pv_getR (k := 0) (j := 16) (ci := 11) (pc := 91) 19 rfl (by decide) pfl_X11_37 (by decide) rfl (by decide) (fm_dec dtX11_news 58 rfl) ?_
              refine pv_iloadn (pc := 94) (n := 3) 3 rfl rfl (fm_dec dtX11_news 59 rfl) ?_
              refine pv_aald (k := 19) (n := 24) (r := (67 + n)) (pc := 95) (by decide) (Or.inr (Or.inr rfl)) rfl (rw_fact.inb hi h24) (rw_fact.at hi h24) (rw_fact.2.2.2 _ h24).2.1 (fm_dec dtX11_news 60 rfl) ?_
              refine pv_iconst (pc := 96) (v := 2) (by decide) (fm_dec dtX11_news 61 rfl) ?_
              refine pv_iald (k := (67 + n)) (n := 3) (pc := 97) (rw_fact.2.2.2 _ h24).2.2.1 (rw_fact.2.2.2 _ h24).2.2.2.1 (rw_fact.2.2.2 _ h24).2.2.2.2 (fm_inl (by decide)) (fm_dec dtX11_news 62 rfl) ?_
              refine pv_istoren (pc := 98) (n := 2) 2 rfl (by decide) rfl (fm_dec dtX11_news 63 rfl) ?_
              dsimp only [List.set_cons_zero, List.set_cons_succ]
              refine pv_iincc (pc := 99) 3 1 (by decide) rfl (by decide) rfl (fm_dec dtX11_news 64 rfl) ?_
              dsimp only [List.set_cons_zero, List.set_cons_succ]
              refine pv_goto (pc := 102) 33 (by decide) (fm_dec dtX11_news 65 rfl) ?_
              have zm : (-1 : Int32).toInt = -1 := (by decide)
              have e9 : nwS D x.toInt (S.1.1 : Int) (n + 1) = _ := nx_t ⟨by rw [← f0, hc52], by rw [sc_le] at hc70; omega, Or.inr (by rw [sc_le] at hc87; omega)⟩
              exact ih (D.2.2.1 - (n + 1)) (by omega) (n + 1) _ (i + 1) (i32_p1 hi (by omega)) (by omega) rfl (by rw [e9]; exact f2) hq
set_option maxRecDepth 20000 in
theorem c_mnews {M : fmM} {Q : fmR → fmM → Prop} {D : dD} {cs : tC} {S : aS} {x : Int32} (h : mAq M D cs S) (hn1 : ¬ inL D x → ∀ (z : Int32) (M' : fmM), M'.1 0 0 = 1 → Q (.inl (some (.int z))) M') (hq : inL D x → ∀ (r : Int32) (M' : fmM), M'.1 0 0 = 0 → r.toInt = nwS D x.toInt (S.1.1 : Int) D.2.2.1 → Q (.inl (some (.int r))) M') : pvGood Tm 40 qX11_news [.ref 0, .int x] M Q := by
  refine pvGood_of (Nat.le_of_ble_eq_true rfl) ?_
  show pvEv Tm 40 qX11_news 0 [some (.ref 0), some (.int x), none, none] [] M Q
  have hmq := h.z (x := 0)
  obtain ⟨hD, hY, hM, hd, ht, ho⟩ := hmq
  have d8 := hD.1
  have h4 : (M.1 4 0).toInt = (D.1 : Int) := hY.1
  have hl := hD.1
  refine pv_aloadn (pc := 0) (n := 0) 0 rfl rfl (fm_dec dtX11_news 0 rfl) ?_
  refine pv_iconst (pc := 1) (v := 0) (by decide) (fm_dec dtX11_news 1 rfl) ?_
  refine pv_putI (k := 0) (j := 0) (ci := 11) (pc := 2) pfl_X11_101 (by decide) rfl (by decide) (fm_dec dtX11_news 2 rfl) ?_
  refine pv_aloadn (pc := 5) (n := 0) 0 rfl rfl (fm_dec dtX11_news 3 rfl) ?_
  refine pv_aloadn (pc := 6) (n := 0) 0 rfl rfl (fm_dec dtX11_news 4 rfl) ?_
  refine pv_iloadn (pc := 7) (n := 1) 1 rfl rfl (fm_dec dtX11_news 5 rfl) ?_
  refine pv_invV1 (k := 0) (d' := 1) (pc := 8) pcv_X11_331 (by decide) rfl (Nat.le_of_ble_eq_true rfl) (by decide) (fm_dec dtX11_news 6 rfl) ?_
  refine c_isLife (M := fmI M 0 0 0) h4 hl (fun k hk hkl => ?_) (fun hno => ?_)
  · refine pv_then1 ?_
    refine pv_if_ne (pc := 11) 18 (by decide) (fm_dec dtX11_news 7 rfl) (fun _ => ?_) (fun hc11 => by exfalso; revert hc11; decide)
    refine pv_iconst (pc := 18) (v := 0) (by decide) (fm_dec dtX11_news 10 rfl) ?_
    refine pv_iconst (pc := 19) (v := 1) (by decide) (fm_dec dtX11_news 11 rfl) ?_
    refine pv_iconst (pc := 20) (v := 0) (by decide) (fm_dec dtX11_news 12 rfl) ?_
    refine pv_invV3 (k := 0) (d' := 0) (pc := 21) pcv_X11_177 (by decide) rfl (Nat.le_of_ble_eq_true rfl) (by decide) (fm_dec dtX11_news 13 rfl) ?_
    refine c_badF0 rfl ?_
    refine pv_then1 ?_
    refine pv_if_eq (pc := 24) 29 (by decide) (fm_dec dtX11_news 14 rfl) (fun _ => ?_) (fun hc24 => by exfalso; revert hc24; decide)
    refine pv_iconst (pc := 29) (v := (-1)) (by decide) (fm_dec dtX11_news 17 rfl) ?_
    refine pv_istoren (pc := 30) (n := 2) 2 rfl (by decide) rfl (fm_dec dtX11_news 18 rfl) ?_
    dsimp only [List.set_cons_zero, List.set_cons_succ]
    refine pv_iconst (pc := 31) (v := 0) (by decide) (fm_dec dtX11_news 19 rfl) ?_
    refine pv_istoren (pc := 32) (n := 3) 3 rfl (by decide) rfl (fm_dec dtX11_news 20 rfl) ?_
    dsimp only [List.set_cons_zero, List.set_cons_succ]
    exact mnx_loop hD hY ht rfl D.2.2.1 0 _ _ (by decide) (by omega) (by omega) (by show (-1 : Int32).toInt = (-1 : Int); decide) (hq ⟨by omega, by omega⟩)
  · refine pv_then1 ?_
    refine pv_if_ne (pc := 11) 18 (by decide) (fm_dec dtX11_news 7 rfl) (fun hc11 => by exfalso; revert hc11; decide) (fun _ => ?_)
    refine pv_iconst (pc := 14) (v := 1) (by decide) (fm_dec dtX11_news 8 rfl) ?_
    refine pv_goto (pc := 15) 19 (by decide) (fm_dec dtX11_news 9 rfl) ?_
    refine pv_iconst (pc := 19) (v := 1) (by decide) (fm_dec dtX11_news 11 rfl) ?_
    refine pv_iconst (pc := 20) (v := 0) (by decide) (fm_dec dtX11_news 12 rfl) ?_
    refine pv_invV3 (k := 0) (d' := 0) (pc := 21) pcv_X11_177 (by decide) rfl (Nat.le_of_ble_eq_true rfl) (by decide) (fm_dec dtX11_news 13 rfl) ?_
    refine c_badT0 rfl (by decide) ?_
    refine pv_then1 ?_
    refine pv_if_eq (pc := 24) 29 (by decide) (fm_dec dtX11_news 14 rfl) (fun hc24 => by exfalso; revert hc24; decide) (fun _ => ?_)
    refine pv_iconst (pc := 27) (v := 0) (by decide) (fm_dec dtX11_news 15 rfl) ?_
    exact pv_ireturn (pc := 28) rfl (fm_dec dtX11_news 16 rfl) (hn1 hno _ _ rfl)
theorem xe_news {M : fmM} {D : dD} {cs : tC} {S : aS} {x : Int32} (h : xAq M D cs S) : pvGood Tx 250 qX10_news [.ref 0, .int x] M (fun r _ => (inL D x ∧ r = .inl (some (.int (iZ (nwS D x.toInt (S.1.1 : Int) D.2.2.1))))) ∨ (¬ inL D x ∧ r = .inr fmNSE)) := (c_xnews h (fun h => Or.inr ⟨h, rfl⟩) (fun h r M' e => Or.inl ⟨h, by rw [iZ_is e]⟩)).up (by decide)
theorem me_news {M : fmM} {D : dD} {cs : tC} {S : aS} {x : Int32} (h : mAq M D cs S) : pvGood Tm 250 qX11_news [.ref 0, .int x] M (fun r M' => (inL D x ∧ r = .inl (some (.int (iZ (nwS D x.toInt (S.1.1 : Int) D.2.2.1)))) ∧ M'.1 0 0 = 0) ∨ (¬ inL D x ∧ M'.1 0 0 = 1)) := (c_mnews h (fun h z M' e => Or.inr ⟨h, e⟩) (fun h r M' z e => Or.inl ⟨h, by rw [iZ_is e], z⟩)).up (by decide)
