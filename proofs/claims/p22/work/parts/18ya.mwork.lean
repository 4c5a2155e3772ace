-- THE REFERENCE DOES A WORK
set_option maxRecDepth 20000 in
theorem c_mds0 {M : fmM} {Q : fmR → fmM → Prop} {D : dD} {cs : tC} {S : aS} {b i : Nat} (hD : dOk D) (hY : mdw M D) (hL : lwM M cs) (hd : cs = [] ∨ dpB 23 0 cs = some 1) (hs : mst M D S) (ho : stO D S) (hb : b < 80) (hk : M.1 (423 + b) 0 = nI 0) (hi1 : (M.1 (423 + b) 1).toInt = (i : Int)) (hi : i < D.1) (hn : doS D cs S 0 i = none → Q (.inl (some (.int 0))) M) (hq : ∀ (M' : fmM) (S' : aS), doS D cs S 0 i = some S' → mst M' D S' → mFr M M' → Q (.inl (some (.int 1))) M') : pvGood Tm 9 qX11_does [.ref 0, .ref 7, .ref (423 + b)] M Q := by
  refine pvGood_of (Nat.le_of_ble_eq_true rfl) ?_
  show pvEv Tm 9 qX11_does 0 [some (.ref 0), some (.ref 7), some (.ref (423 + b)), none] [] M Q
  have d8 := hD.1
  have hi9 : (nI i).toInt = (i : Int) := nI_toInt (by omega)
  have hi8 : i < 8 := (by omega)
  have ei : M.1 (423 + b) (Int32.toNatClampNeg 1) = nI i := nI_is hi1 (by have := hD.1; omega)
  have e0 : M.1 7 (Int32.toNatClampNeg 0) = nI S.1.2.2.1 := nI_is hs.1 (by have := ho.2.2.1; omega)
  have hno := hs.no ho hi
  have h12 := ho.2.1
  have hh := hrV_n hD hY hs ho hi
  have g9 : (M.1 7 (Int32.toNatClampNeg 9)).toInt = (S.1.2.1 : Int) := hs.2.2.1
  have hk9 : M.1 (423 + b) (Int32.toNatClampNeg 0) = nI 0 := hk
  refine pv_aloadn (pc := 0) (n := 2) 2 rfl rfl (fm_dec dtX11_does 0 rfl) ?_
  refine pv_iconst (pc := 1) (v := 1) (by decide) (fm_dec dtX11_does 1 rfl) ?_
  refine pv_iald (k := (423 + b)) (n := 3) (pc := 2) (rw_step.2.2.2 _ hb).2.2.1 (rw_step.2.2.2 _ hb).2.2.2.1 (rw_step.2.2.2 _ hb).2.2.2.2 (fm_inl (by decide)) (fm_dec dtX11_does 2 rfl) ?_
  refine pv_istoren (pc := 3) (n := 3) 3 rfl (by decide) rfl (fm_dec dtX11_does 3 rfl) ?_
  dsimp only [List.set_cons_zero, List.set_cons_succ]
  rw [ei]
  refine pv_aloadn (pc := 4) (n := 2) 2 rfl rfl (fm_dec dtX11_does 4 rfl) ?_
  refine pv_iconst (pc := 5) (v := 0) (by decide) (fm_dec dtX11_does 5 rfl) ?_
  refine pv_iald (k := (423 + b)) (n := 3) (pc := 6) (rw_step.2.2.2 _ hb).2.2.1 (rw_step.2.2.2 _ hb).2.2.2.1 (rw_step.2.2.2 _ hb).2.2.2.2 (fm_inl (by decide)) (fm_dec dtX11_does 6 rfl) ?_
  refine pv_table (pc := 7) 32 (by decide) (by have h9 : M.1 (423 + b) (Int32.toNatClampNeg 0) = nI 0 := hk; rw [h9]; decide) (fm_dec dtX11_does 7 rfl) ?_
  refine pv_aloadn (pc := 32) (n := 0) 0 rfl rfl (fm_dec dtX11_does 8 rfl) ?_
  refine pv_aloadn (pc := 33) (n := 1) 1 rfl rfl (fm_dec dtX11_does 9 rfl) ?_
  refine pv_iloadn (pc := 34) (n := 3) 3 rfl rfl (fm_dec dtX11_does 10 rfl) ?_
  refine pv_invV2 (k := 0) (d' := 1) (pc := 35) pcv_X11_296 (by decide) rfl (Nat.le_of_ble_eq_true rfl) (by decide) (fm_dec dtX11_does 11 rfl) ?_
  refine c_mmay hD hs ho hi (fun h35a h35b => ?_) (fun h35 => ?_)
  · refine pv_then1 ?_
    refine pv_if_eq (pc := 38) 74 (by decide) (fm_dec dtX11_does 12 rfl) (fun hc38 => by exfalso; revert hc38; decide) (fun _ => ?_)
    refine pv_aloadn (pc := 41) (n := 1) 1 rfl rfl (fm_dec dtX11_does 13 rfl) ?_
    refine pv_iloadn (pc := 42) (n := 3) 3 rfl rfl (fm_dec dtX11_does 14 rfl) ?_
    refine pv_iS2 (d' := 0) (pc := 43) pcs_X11_283 (Nat.le_of_ble_eq_true rfl) (by decide) (fm_dec dtX11_does 15 rfl) ?_
    refine c_hasPiece7 hi9 hi8 (fun h43 => ?_) (fun h43 => ?_)
    · refine pv_then1 ?_
      refine pv_aloadn (pc := 46) (n := 2) 2 rfl rfl (fm_dec dtX11_does 16 rfl) ?_
      refine pv_iconst (pc := 47) (v := 0) (by decide) (fm_dec dtX11_does 17 rfl) ?_
      refine pv_iald (k := (423 + b)) (n := 3) (pc := 48) (rw_step.2.2.2 _ hb).2.2.1 (rw_step.2.2.2 _ hb).2.2.2.1 (rw_step.2.2.2 _ hb).2.2.2.2 (fm_inl (by decide)) (fm_dec dtX11_does 18 rfl) ?_
      refine pv_iconst (pc := 49) (v := 1) (by decide) (fm_dec dtX11_does 19 rfl) ?_
      refine pv_icmp_ne (pc := 50) 57 (by decide) (fm_dec dtX11_does 20 rfl) (fun _ => ?_) (fun hc50 => by exfalso; rw [hk9] at hc50; revert hc50; decide)
      refine pv_iconst (pc := 57) (v := 0) (by decide) (fm_dec dtX11_does 23 rfl) ?_
      refine pv_icmp_ne (pc := 58) 74 (by decide) (fm_dec dtX11_does 24 rfl) (fun _ => ?_) (fun hc58 => by exfalso; revert hc58; decide)
      refine pv_iconst (pc := 74) (v := 0) (by decide) (fm_dec dtX11_does 33 rfl) ?_
      exact pv_zreturn (pc := 75) rfl (by first | exact Or.inr rfl | exact Or.inl rfl) (fm_dec dtX11_does 34 rfl) (hn (by have hm : ¬ S.2 i = -1 := (fun h8 => h43 (hno.mpr h8)); show (if S.2 i = -1 then puS D S i else none) = _; rw [if_neg hm]))
    · refine pv_then1 ?_
      refine pv_aloadn (pc := 46) (n := 2) 2 rfl rfl (fm_dec dtX11_does 16 rfl) ?_
      refine pv_iconst (pc := 47) (v := 0) (by decide) (fm_dec dtX11_does 17 rfl) ?_
      refine pv_iald (k := (423 + b)) (n := 3) (pc := 48) (rw_step.2.2.2 _ hb).2.2.1 (rw_step.2.2.2 _ hb).2.2.2.1 (rw_step.2.2.2 _ hb).2.2.2.2 (fm_inl (by decide)) (fm_dec dtX11_does 18 rfl) ?_
      refine pv_iconst (pc := 49) (v := 1) (by decide) (fm_dec dtX11_does 19 rfl) ?_
      refine pv_icmp_ne (pc := 50) 57 (by decide) (fm_dec dtX11_does 20 rfl) (fun _ => ?_) (fun hc50 => by exfalso; rw [hk9] at hc50; revert hc50; decide)
      refine pv_iconst (pc := 57) (v := 0) (by decide) (fm_dec dtX11_does 23 rfl) ?_
      refine pv_icmp_ne (pc := 58) 74 (by decide) (fm_dec dtX11_does 24 rfl) (fun hc58 => by exfalso; revert hc58; decide) (fun _ => ?_)
      refine pv_aloadn (pc := 61) (n := 0) 0 rfl rfl (fm_dec dtX11_does 25 rfl) ?_
      refine pv_aloadn (pc := 62) (n := 1) 1 rfl rfl (fm_dec dtX11_does 26 rfl) ?_
      refine pv_iloadn (pc := 63) (n := 3) 3 rfl rfl (fm_dec dtX11_does 27 rfl) ?_
      refine pv_invV2 (k := 0) (d' := 2) (pc := 64) pcv_X11_290 (by decide) rfl (Nat.le_of_ble_eq_true rfl) (by decide) (fm_dec dtX11_does 28 rfl) ?_
      refine c_hours7 hi9 hi8 (h5_ne hD hY) ?_
      refine pv_then1 ?_
      refine pv_aloadn (pc := 67) (n := 1) 1 rfl rfl (fm_dec dtX11_does 29 rfl) ?_
      refine pv_bipush (pc := 68) (v := 9) (by decide) (fm_dec dtX11_does 30 rfl) ?_
      refine pv_iald (k := 7) (n := 14) (pc := 70) (by decide) rfl rfl (fm_inl (by decide)) (fm_dec dtX11_does 31 rfl) ?_
      refine pv_icmp_le (pc := 71) 76 (by decide) (fm_dec dtX11_does 32 rfl) (fun hc71 => ?_) (fun hc71 => ?_)
      · refine pv_aloadn (pc := 76) (n := 0) 0 rfl rfl (fm_dec dtX11_does 35 rfl) ?_
        refine pv_aloadn (pc := 77) (n := 1) 1 rfl rfl (fm_dec dtX11_does 36 rfl) ?_
        refine pv_iloadn (pc := 78) (n := 3) 3 rfl rfl (fm_dec dtX11_does 37 rfl) ?_
        refine pv_invV2 (k := 0) (d' := 3) (pc := 79) pcv_X11_299 (by decide) rfl (Nat.le_of_ble_eq_true rfl) (by decide) (fm_dec dtX11_does 38 rfl) ?_
        refine c_mwri hD hY hi ?_
        refine pv_then0 ?_
        refine pv_iconst (pc := 82) (v := 1) (by decide) (fm_dec dtX11_does 39 rfl) ?_
        exact pv_zreturn (pc := 83) rfl (by first | exact Or.inr rfl | exact Or.inl rfl) (fm_dec dtX11_does 40 rfl) (hq _ _ (by have hm : S.2 i = -1 := hno.mp h43; show (if S.2 i = -1 then puS D S i else none) = _; rw [if_pos hm]; exact if_neg (by intro h8; rcases h8 with h8 | h8 | h8; exact h35a h8; exact h35b h8; rw [sc_le] at hc71; omega)) (wr_st hD hY hs ho hi (by rw [sc_le] at hc71; omega)) ((mFr.refl M).put.put))
      · refine pv_iconst (pc := 74) (v := 0) (by decide) (fm_dec dtX11_does 33 rfl) ?_
        exact pv_zreturn (pc := 75) rfl (by first | exact Or.inr rfl | exact Or.inl rfl) (fm_dec dtX11_does 34 rfl) (hn (by have hm : S.2 i = -1 := hno.mp h43; show (if S.2 i = -1 then puS D S i else none) = _; rw [if_pos hm]; exact if_pos (Or.inr (Or.inr (by rw [sc_le] at hc71; omega)))))
  · refine pv_then1 ?_
    refine pv_if_eq (pc := 38) 74 (by decide) (fm_dec dtX11_does 12 rfl) (fun _ => ?_) (fun hc38 => by exfalso; revert hc38; decide)
    refine pv_iconst (pc := 74) (v := 0) (by decide) (fm_dec dtX11_does 33 rfl) ?_
    exact pv_zreturn (pc := 75) rfl (by first | exact Or.inr rfl | exact Or.inl rfl) (fm_dec dtX11_does 34 rfl) (hn (by show (if S.2 i = -1 then puS D S i else none) = _; by_cases hm : S.2 i = -1; (rw [if_pos hm]; exact if_pos (by rcases h35 with h | h; exact Or.inl h; exact Or.inr (Or.inl h))); (rw [if_neg hm])))
set_option maxRecDepth 20000 in
theorem c_mds1 {M : fmM} {Q : fmR → fmM → Prop} {D : dD} {cs : tC} {S : aS} {b i : Nat} (hD : dOk D) (hY : mdw M D) (hL : lwM M cs) (hd : cs = [] ∨ dpB 23 0 cs = some 1) (hs : mst M D S) (ho : stO D S) (hb : b < 80) (hk : M.1 (423 + b) 0 = nI 1) (hi1 : (M.1 (423 + b) 1).toInt = (i : Int)) (hi : i < D.1) (hn : doS D cs S 1 i = none → Q (.inl (some (.int 0))) M) (hq : ∀ (M' : fmM) (S' : aS), doS D cs S 1 i = some S' → mst M' D S' → mFr M M' → Q (.inl (some (.int 1))) M') : pvGood Tm 9 qX11_does [.ref 0, .ref 7, .ref (423 + b)] M Q := by
  refine pvGood_of (Nat.le_of_ble_eq_true rfl) ?_
  show pvEv Tm 9 qX11_does 0 [some (.ref 0), some (.ref 7), some (.ref (423 + b)), none] [] M Q
  have d8 := hD.1
  have hi9 : (nI i).toInt = (i : Int) := nI_toInt (by omega)
  have hi8 : i < 8 := (by omega)
  have ei : M.1 (423 + b) (Int32.toNatClampNeg 1) = nI i := nI_is hi1 (by have := hD.1; omega)
  have e0 : M.1 7 (Int32.toNatClampNeg 0) = nI S.1.2.2.1 := nI_is hs.1 (by have := ho.2.2.1; omega)
  have hno := hs.no ho hi
  have h12 := ho.2.1
  have hh := hrV_n hD hY hs ho hi
  have g9 : (M.1 7 (Int32.toNatClampNeg 9)).toInt = (S.1.2.1 : Int) := hs.2.2.1
  have hk9 : M.1 (423 + b) (Int32.toNatClampNeg 0) = nI 1 := hk
  refine pv_aloadn (pc := 0) (n := 2) 2 rfl rfl (fm_dec dtX11_does 0 rfl) ?_
  refine pv_iconst (pc := 1) (v := 1) (by decide) (fm_dec dtX11_does 1 rfl) ?_
  refine pv_iald (k := (423 + b)) (n := 3) (pc := 2) (rw_step.2.2.2 _ hb).2.2.1 (rw_step.2.2.2 _ hb).2.2.2.1 (rw_step.2.2.2 _ hb).2.2.2.2 (fm_inl (by decide)) (fm_dec dtX11_does 2 rfl) ?_
  refine pv_istoren (pc := 3) (n := 3) 3 rfl (by decide) rfl (fm_dec dtX11_does 3 rfl) ?_
  dsimp only [List.set_cons_zero, List.set_cons_succ]
  rw [ei]
  refine pv_aloadn (pc := 4) (n := 2) 2 rfl rfl (fm_dec dtX11_does 4 rfl) ?_
  refine pv_iconst (pc := 5) (v := 0) (by decide) (fm_dec dtX11_does 5 rfl) ?_
  refine pv_iald (k := (423 + b)) (n := 3) (pc := 6) (rw_step.2.2.2 _ hb).2.2.1 (rw_step.2.2.2 _ hb).2.2.2.1 (rw_step.2.2.2 _ hb).2.2.2.2 (fm_inl (by decide)) (fm_dec dtX11_does 6 rfl) ?_
  refine pv_table (pc := 7) 32 (by decide) (by have h9 : M.1 (423 + b) (Int32.toNatClampNeg 0) = nI 1 := hk; rw [h9]; decide) (fm_dec dtX11_does 7 rfl) ?_
  refine pv_aloadn (pc := 32) (n := 0) 0 rfl rfl (fm_dec dtX11_does 8 rfl) ?_
  refine pv_aloadn (pc := 33) (n := 1) 1 rfl rfl (fm_dec dtX11_does 9 rfl) ?_
  refine pv_iloadn (pc := 34) (n := 3) 3 rfl rfl (fm_dec dtX11_does 10 rfl) ?_
  refine pv_invV2 (k := 0) (d' := 1) (pc := 35) pcv_X11_296 (by decide) rfl (Nat.le_of_ble_eq_true rfl) (by decide) (fm_dec dtX11_does 11 rfl) ?_
  refine c_mmay hD hs ho hi (fun h35a h35b => ?_) (fun h35 => ?_)
  · refine pv_then1 ?_
    refine pv_if_eq (pc := 38) 74 (by decide) (fm_dec dtX11_does 12 rfl) (fun hc38 => by exfalso; revert hc38; decide) (fun _ => ?_)
    refine pv_aloadn (pc := 41) (n := 1) 1 rfl rfl (fm_dec dtX11_does 13 rfl) ?_
    refine pv_iloadn (pc := 42) (n := 3) 3 rfl rfl (fm_dec dtX11_does 14 rfl) ?_
    refine pv_iS2 (d' := 0) (pc := 43) pcs_X11_283 (Nat.le_of_ble_eq_true rfl) (by decide) (fm_dec dtX11_does 15 rfl) ?_
    refine c_hasPiece7 hi9 hi8 (fun h43 => ?_) (fun h43 => ?_)
    · refine pv_then1 ?_
      refine pv_aloadn (pc := 46) (n := 2) 2 rfl rfl (fm_dec dtX11_does 16 rfl) ?_
      refine pv_iconst (pc := 47) (v := 0) (by decide) (fm_dec dtX11_does 17 rfl) ?_
      refine pv_iald (k := (423 + b)) (n := 3) (pc := 48) (rw_step.2.2.2 _ hb).2.2.1 (rw_step.2.2.2 _ hb).2.2.2.1 (rw_step.2.2.2 _ hb).2.2.2.2 (fm_inl (by decide)) (fm_dec dtX11_does 18 rfl) ?_
      refine pv_iconst (pc := 49) (v := 1) (by decide) (fm_dec dtX11_does 19 rfl) ?_
      refine pv_icmp_ne (pc := 50) 57 (by decide) (fm_dec dtX11_does 20 rfl) (fun hc50 => by exfalso; apply hc50; rw [hk9]; decide) (fun _ => ?_)
      refine pv_iconst (pc := 53) (v := 1) (by decide) (fm_dec dtX11_does 21 rfl) ?_
      refine pv_goto (pc := 54) 58 (by decide) (fm_dec dtX11_does 22 rfl) ?_
      refine pv_icmp_ne (pc := 58) 74 (by decide) (fm_dec dtX11_does 24 rfl) (fun hc58 => by exfalso; revert hc58; decide) (fun _ => ?_)
      refine pv_aloadn (pc := 61) (n := 0) 0 rfl rfl (fm_dec dtX11_does 25 rfl) ?_
      refine pv_aloadn (pc := 62) (n := 1) 1 rfl rfl (fm_dec dtX11_does 26 rfl) ?_
      refine pv_iloadn (pc := 63) (n := 3) 3 rfl rfl (fm_dec dtX11_does 27 rfl) ?_
      refine pv_invV2 (k := 0) (d' := 2) (pc := 64) pcv_X11_290 (by decide) rfl (Nat.le_of_ble_eq_true rfl) (by decide) (fm_dec dtX11_does 28 rfl) ?_
      refine c_hours7 hi9 hi8 (h5_ne hD hY) ?_
      refine pv_then1 ?_
      refine pv_aloadn (pc := 67) (n := 1) 1 rfl rfl (fm_dec dtX11_does 29 rfl) ?_
      refine pv_bipush (pc := 68) (v := 9) (by decide) (fm_dec dtX11_does 30 rfl) ?_
      refine pv_iald (k := 7) (n := 14) (pc := 70) (by decide) rfl rfl (fm_inl (by decide)) (fm_dec dtX11_does 31 rfl) ?_
      refine pv_icmp_le (pc := 71) 76 (by decide) (fm_dec dtX11_does 32 rfl) (fun hc71 => ?_) (fun hc71 => ?_)
      · refine pv_aloadn (pc := 76) (n := 0) 0 rfl rfl (fm_dec dtX11_does 35 rfl) ?_
        refine pv_aloadn (pc := 77) (n := 1) 1 rfl rfl (fm_dec dtX11_does 36 rfl) ?_
        refine pv_iloadn (pc := 78) (n := 3) 3 rfl rfl (fm_dec dtX11_does 37 rfl) ?_
        refine pv_invV2 (k := 0) (d' := 3) (pc := 79) pcv_X11_299 (by decide) rfl (Nat.le_of_ble_eq_true rfl) (by decide) (fm_dec dtX11_does 38 rfl) ?_
        refine c_mwri hD hY hi ?_
        refine pv_then0 ?_
        refine pv_iconst (pc := 82) (v := 1) (by decide) (fm_dec dtX11_does 39 rfl) ?_
        exact pv_zreturn (pc := 83) rfl (by first | exact Or.inr rfl | exact Or.inl rfl) (fm_dec dtX11_does 40 rfl) (hq _ _ (by have hm : ¬ S.2 i = -1 := (fun h8 => h43 (hno.mpr h8)); show (if S.2 i = -1 then none else puS D S i) = _; rw [if_neg hm]; exact if_neg (by intro h8; rcases h8 with h8 | h8 | h8; exact h35a h8; exact h35b h8; rw [sc_le] at hc71; omega)) (wr_st hD hY hs ho hi (by rw [sc_le] at hc71; omega)) ((mFr.refl M).put.put))
      · refine pv_iconst (pc := 74) (v := 0) (by decide) (fm_dec dtX11_does 33 rfl) ?_
        exact pv_zreturn (pc := 75) rfl (by first | exact Or.inr rfl | exact Or.inl rfl) (fm_dec dtX11_does 34 rfl) (hn (by have hm : ¬ S.2 i = -1 := (fun h8 => h43 (hno.mpr h8)); show (if S.2 i = -1 then none else puS D S i) = _; rw [if_neg hm]; exact if_pos (Or.inr (Or.inr (by rw [sc_le] at hc71; omega)))))
    · refine pv_then1 ?_
      refine pv_aloadn (pc := 46) (n := 2) 2 rfl rfl (fm_dec dtX11_does 16 rfl) ?_
      refine pv_iconst (pc := 47) (v := 0) (by decide) (fm_dec dtX11_does 17 rfl) ?_
      refine pv_iald (k := (423 + b)) (n := 3) (pc := 48) (rw_step.2.2.2 _ hb).2.2.1 (rw_step.2.2.2 _ hb).2.2.2.1 (rw_step.2.2.2 _ hb).2.2.2.2 (fm_inl (by decide)) (fm_dec dtX11_does 18 rfl) ?_
      refine pv_iconst (pc := 49) (v := 1) (by decide) (fm_dec dtX11_does 19 rfl) ?_
      refine pv_icmp_ne (pc := 50) 57 (by decide) (fm_dec dtX11_does 20 rfl) (fun hc50 => by exfalso; apply hc50; rw [hk9]; decide) (fun _ => ?_)
      refine pv_iconst (pc := 53) (v := 1) (by decide) (fm_dec dtX11_does 21 rfl) ?_
      refine pv_goto (pc := 54) 58 (by decide) (fm_dec dtX11_does 22 rfl) ?_
      refine pv_icmp_ne (pc := 58) 74 (by decide) (fm_dec dtX11_does 24 rfl) (fun _ => ?_) (fun hc58 => by exfalso; revert hc58; decide)
      refine pv_iconst (pc := 74) (v := 0) (by decide) (fm_dec dtX11_does 33 rfl) ?_
      exact pv_zreturn (pc := 75) rfl (by first | exact Or.inr rfl | exact Or.inl rfl) (fm_dec dtX11_does 34 rfl) (hn (by have hm : S.2 i = -1 := hno.mp h43; show (if S.2 i = -1 then none else puS D S i) = _; rw [if_pos hm]))
  · refine pv_then1 ?_
    refine pv_if_eq (pc := 38) 74 (by decide) (fm_dec dtX11_does 12 rfl) (fun _ => ?_) (fun hc38 => by exfalso; revert hc38; decide)
    refine pv_iconst (pc := 74) (v := 0) (by decide) (fm_dec dtX11_does 33 rfl) ?_
    exact pv_zreturn (pc := 75) rfl (by first | exact Or.inr rfl | exact Or.inl rfl) (fm_dec dtX11_does 34 rfl) (hn (by show (if S.2 i = -1 then none else puS D S i) = _; by_cases hm : S.2 i = -1; (rw [if_pos hm]); (rw [if_neg hm]; exact if_pos (by rcases h35 with h | h; exact Or.inl h; exact Or.inr (Or.inl h)))))
set_option maxRecDepth 20000 in
theorem c_mds2 {M : fmM} {Q : fmR → fmM → Prop} {D : dD} {cs : tC} {S : aS} {b i : Nat} (hD : dOk D) (hY : mdw M D) (hL : lwM M cs) (hd : cs = [] ∨ dpB 23 0 cs = some 1) (hs : mst M D S) (ho : stO D S) (hb : b < 80) (hk : M.1 (423 + b) 0 = nI 2) (hi1 : (M.1 (423 + b) 1).toInt = (i : Int)) (hi : i < D.1) (hn : doS D cs S 2 i = none → Q (.inl (some (.int 0))) M) (hq : ∀ (M' : fmM) (S' : aS), doS D cs S 2 i = some S' → mst M' D S' → mFr M M' → Q (.inl (some (.int 1))) M') : pvGood Tm 9 qX11_does [.ref 0, .ref 7, .ref (423 + b)] M Q := by
  refine pvGood_of (Nat.le_of_ble_eq_true rfl) ?_
  show pvEv Tm 9 qX11_does 0 [some (.ref 0), some (.ref 7), some (.ref (423 + b)), none] [] M Q
  have d8 := hD.1
  have hi9 : (nI i).toInt = (i : Int) := nI_toInt (by omega)
  have hi8 : i < 8 := (by omega)
  have ei : M.1 (423 + b) (Int32.toNatClampNeg 1) = nI i := nI_is hi1 (by have := hD.1; omega)
  have e0 : M.1 7 (Int32.toNatClampNeg 0) = nI S.1.2.2.1 := nI_is hs.1 (by have := ho.2.2.1; omega)
  refine pv_aloadn (pc := 0) (n := 2) 2 rfl rfl (fm_dec dtX11_does 0 rfl) ?_
  refine pv_iconst (pc := 1) (v := 1) (by decide) (fm_dec dtX11_does 1 rfl) ?_
  refine pv_iald (k := (423 + b)) (n := 3) (pc := 2) (rw_step.2.2.2 _ hb).2.2.1 (rw_step.2.2.2 _ hb).2.2.2.1 (rw_step.2.2.2 _ hb).2.2.2.2 (fm_inl (by decide)) (fm_dec dtX11_does 2 rfl) ?_
  refine pv_istoren (pc := 3) (n := 3) 3 rfl (by decide) rfl (fm_dec dtX11_does 3 rfl) ?_
  dsimp only [List.set_cons_zero, List.set_cons_succ]
  rw [ei]
  refine pv_aloadn (pc := 4) (n := 2) 2 rfl rfl (fm_dec dtX11_does 4 rfl) ?_
  refine pv_iconst (pc := 5) (v := 0) (by decide) (fm_dec dtX11_does 5 rfl) ?_
  refine pv_iald (k := (423 + b)) (n := 3) (pc := 6) (rw_step.2.2.2 _ hb).2.2.1 (rw_step.2.2.2 _ hb).2.2.2.1 (rw_step.2.2.2 _ hb).2.2.2.2 (fm_inl (by decide)) (fm_dec dtX11_does 6 rfl) ?_
  refine pv_table (pc := 7) 84 (by decide) (by have h9 : M.1 (423 + b) (Int32.toNatClampNeg 0) = nI 2 := hk; rw [h9]; decide) (fm_dec dtX11_does 7 rfl) ?_
  refine pv_aloadn (pc := 84) (n := 1) 1 rfl rfl (fm_dec dtX11_does 41 rfl) ?_
  refine pv_iconst (pc := 85) (v := 0) (by decide) (fm_dec dtX11_does 42 rfl) ?_
  refine pv_iald (k := 7) (n := 14) (pc := 86) (by decide) rfl rfl (fm_inl (by decide)) (fm_dec dtX11_does 43 rfl) ?_
  refine pv_iloadn (pc := 87) (n := 3) 3 rfl rfl (fm_dec dtX11_does 44 rfl) ?_
  refine pv_iS2 (d' := 0) (pc := 88) pcs_X11_256 (Nat.le_of_ble_eq_true rfl) (by decide) (fm_dec dtX11_does 45 rfl) ?_
  refine c_has (fun h88 => ?_) (fun h88 => ?_)
  · refine pv_then1 ?_
    refine pv_if_eq (pc := 91) 96 (by decide) (fm_dec dtX11_does 46 rfl) (fun hc91 => by exfalso; revert hc91; decide) (fun _ => ?_)
    refine pv_iconst (pc := 94) (v := 0) (by decide) (fm_dec dtX11_does 47 rfl) ?_
    exact pv_zreturn (pc := 95) rfl (by first | exact Or.inr rfl | exact Or.inl rfl) (fm_dec dtX11_does 48 rfl) (hn (if_pos ((has8 _ ho.2.2.1 i hi8).mp (by rw [← e0]; exact h88))))
  · refine pv_then1 ?_
    refine pv_if_eq (pc := 91) 96 (by decide) (fm_dec dtX11_does 46 rfl) (fun _ => ?_) (fun hc91 => by exfalso; revert hc91; decide)
    refine pv_aloadn (pc := 96) (n := 0) 0 rfl rfl (fm_dec dtX11_does 49 rfl) ?_
    refine pv_aloadn (pc := 97) (n := 1) 1 rfl rfl (fm_dec dtX11_does 50 rfl) ?_
    refine pv_iloadn (pc := 98) (n := 3) 3 rfl rfl (fm_dec dtX11_does 51 rfl) ?_
    refine pv_invV2 (k := 0) (d' := 8) (pc := 99) pcv_X11_303 (by decide) rfl (Nat.le_of_ble_eq_true rfl) (by decide) (fm_dec dtX11_does 52 rfl) ?_
    refine c_mdie hD hY hL hd hs ho hi (Bool.eq_false_iff.mpr (fun h8 => h88 (by rw [e0]; exact (has8 _ ho.2.2.1 i hi8).mpr h8))) (fun M99 S99 e99 x99 f99 => ?_)
    refine pv_then0 ?_
    refine pv_iconst (pc := 102) (v := 1) (by decide) (fm_dec dtX11_does 53 rfl) ?_
    exact pv_zreturn (pc := 103) rfl (by first | exact Or.inr rfl | exact Or.inl rfl) (fm_dec dtX11_does 54 rfl) (hq M99 S99 e99 x99 f99)
set_option maxRecDepth 20000 in
theorem c_mds3 {M : fmM} {Q : fmR → fmM → Prop} {D : dD} {cs : tC} {S : aS} {b i : Nat} (hD : dOk D) (hY : mdw M D) (hL : lwM M cs) (hd : cs = [] ∨ dpB 23 0 cs = some 1) (hs : mst M D S) (ho : stO D S) (hb : b < 80) (hk : M.1 (423 + b) 0 = nI 3) (hn : doS D cs S 3 i = none → Q (.inl (some (.int 0))) M) (hq : ∀ (M' : fmM) (S' : aS), doS D cs S 3 i = some S' → mst M' D S' → mFr M M' → Q (.inl (some (.int 1))) M') : pvGood Tm 9 qX11_does [.ref 0, .ref 7, .ref (423 + b)] M Q := by
  refine pvGood_of (Nat.le_of_ble_eq_true rfl) ?_
  show pvEv Tm 9 qX11_does 0 [some (.ref 0), some (.ref 7), some (.ref (423 + b)), none] [] M Q
  refine pv_aloadn (pc := 0) (n := 2) 2 rfl rfl (fm_dec dtX11_does 0 rfl) ?_
  refine pv_iconst (pc := 1) (v := 1) (by decide) (fm_dec dtX11_does 1 rfl) ?_
  refine pv_iald (k := (423 + b)) (n := 3) (pc := 2) (rw_step.2.2.2 _ hb).2.2.1 (rw_step.2.2.2 _ hb).2.2.2.1 (rw_step.2.2.2 _ hb).2.2.2.2 (fm_inl (by decide)) (fm_dec dtX11_does 2 rfl) ?_
  refine pv_istoren (pc := 3) (n := 3) 3 rfl (by decide) rfl (fm_dec dtX11_does 3 rfl) ?_
  dsimp only [List.set_cons_zero, List.set_cons_succ]
  refine pv_aloadn (pc := 4) (n := 2) 2 rfl rfl (fm_dec dtX11_does 4 rfl) ?_
  refine pv_iconst (pc := 5) (v := 0) (by decide) (fm_dec dtX11_does 5 rfl) ?_
  refine pv_iald (k := (423 + b)) (n := 3) (pc := 6) (rw_step.2.2.2 _ hb).2.2.1 (rw_step.2.2.2 _ hb).2.2.2.1 (rw_step.2.2.2 _ hb).2.2.2.2 (fm_inl (by decide)) (fm_dec dtX11_does 6 rfl) ?_
  refine pv_table (pc := 7) 104 (by decide) (by have h9 : M.1 (423 + b) (Int32.toNatClampNeg 0) = nI 3 := hk; rw [h9]; decide) (fm_dec dtX11_does 7 rfl) ?_
  refine pv_aloadn (pc := 104) (n := 0) 0 rfl rfl (fm_dec dtX11_does 55 rfl) ?_
  refine pv_aloadn (pc := 105) (n := 1) 1 rfl rfl (fm_dec dtX11_does 56 rfl) ?_
  refine pv_invV1 (k := 0) (d' := 0) (pc := 106) pcv_X11_306 (by decide) rfl (Nat.le_of_ble_eq_true rfl) (by decide) (fm_dec dtX11_does 57 rfl) ?_
  refine c_mweek hD hY hs ho (fun h106 => ?_) (fun M9 S9 h106 x9 f9 => ?_)
  · refine pv_then1 ?_
    exact pv_zreturn (pc := 109) rfl (by first | exact Or.inr rfl | exact Or.inl rfl) (fm_dec dtX11_does 58 rfl) (hn h106)
  · refine pv_then1 ?_
    exact pv_zreturn (pc := 109) rfl (by first | exact Or.inr rfl | exact Or.inl rfl) (fm_dec dtX11_does 58 rfl) (hq M9 S9 h106 x9 f9)
