/-- nothing but the state and the law's own cells has changed -/
def mFr (M M' : fmM) : Prop := (∀ k j, k ≠ 5 → k ≠ 6 → k ≠ 7 → M'.1 k j = M.1 k j) ∧ M'.2 = M.2
theorem mFr.refl (M : fmM) : mFr M M := ⟨fun _ _ _ _ _ => rfl, rfl⟩
theorem mFr.trans {M M1 M2 : fmM} (h : mFr M M1) (h' : mFr M1 M2) : mFr M M2 := ⟨fun k j a b c => (h'.1 k j a b c).trans (h.1 k j a b c), h'.2.trans h.2⟩
theorem mFr.put {M M1 : fmM} {j : Nat} {x : Int32} (h : mFr M M1) : mFr M (fmI M1 7 j x) := ⟨fun k' j' a b c => by rw [fmI_k _ _ c]; exact h.1 k' j' a b c, h.2⟩
theorem hrV_n {M : fmM} {D : dD} {S : aS} {i : Nat} (hD : dOk D) (hY : mdw M D) (hs : mst M D S) (ho : stO D S) (hi : i < D.1) : (hrV M i).toInt = ((hoS D S i : Nat) : Int) := by
  have b3 := (hD.2.2.1 i hi).2.2.2.1
  have b5 := hD.2.2.2.2.2.2.2
  have g3 : (M.1 (35 + i) 3).toInt = D.2.1 i 3 := hY.2.2.2.1 i hi 3 (by decide)
  have g5 : (M.1 4 5).toInt = D.2.2.2.2 5 := hY.2.2.1 5 (by decide) (by decide)
  unfold hrV hoS
  by_cases e : S.2 i = -1
  · rw [if_pos e, if_pos ((hs.no ho hi).mpr e)]
    omega
  · rw [if_neg e, if_neg (fun h9 => e ((hs.no ho hi).mp h9))]
    exact mx_1 (dv_n (by omega) (by omega) (by omega) (by omega))
theorem h5_ne {M : fmM} {D : dD} (hD : dOk D) (hY : mdw M D) : ¬ M.1 4 5 = 0 := by
  intro h
  have g5 : (M.1 4 5).toInt = D.2.2.2.2 5 := hY.2.2.1 5 (by decide) (by decide)
  have b5 := hD.2.2.2.2.2.2.2
  rw [h] at g5
  have z0 : (0 : Int32).toInt = 0 := by decide
  omega
theorem one_i {i : Nat} (h : i < 8) : (1 + nI i).toInt = ((1 + i : Nat) : Int) := by
  have h9 : (nI i).toInt = (i : Int) := nI_toInt (by omega)
  have z1 : (1 : Int32).toInt = 1 := by decide
  rw [sc_add (by omega) (by omega)]
  omega
set_option maxRecDepth 20000 in
theorem c_mmay {M : fmM} {Q : fmR → fmM → Prop} {D : dD} {S : aS} {i : Nat} (hD : dOk D) (hs : mst M D S) (ho : stO D S) (hi : i < D.1) (ht : ¬ S.1.2.2.1.testBit i = true → ¬ S.2 i = 0 → Q (.inl (some (.int 1))) M) (hf : (S.1.2.2.1.testBit i = true ∨ S.2 i = 0) → Q (.inl (some (.int 0))) M) : pvGood Tm 1 qX11_mayWrite [.ref 0, .ref 7, .int (nI i)] M Q := by
  refine pvGood_of (Nat.le_of_ble_eq_true rfl) ?_
  show pvEv Tm 1 qX11_mayWrite 0 [some (.ref 0), some (.ref 7), some (.int (nI i))] [] M Q
  have d8 := hD.1
  have hi9 : (nI i).toInt = (i : Int) := nI_toInt (by omega)
  have hi8 : i < 8 := (by omega)
  have h1i := one_i hi8
  have e0 : M.1 7 (Int32.toNatClampNeg 0) = nI S.1.2.2.1 := nI_is hs.1 (by have := ho.2.2.1; omega)
  have g := hs.2.2.2.2.2.2 i hi
  have g10 : (M.1 7 (Int32.toNatClampNeg 10)).toInt = (S.1.1 : Int) := hs.2.1
  have bs := ho.2.2.2.2.2.2.1 i hi
  refine pv_aloadn (pc := 0) (n := 1) 1 rfl rfl (fm_dec dtX11_mayWrite 0 rfl) ?_
  refine pv_iconst (pc := 1) (v := 0) (by decide) (fm_dec dtX11_mayWrite 1 rfl) ?_
  refine pv_iald (k := 7) (n := 14) (pc := 2) (by decide) rfl rfl (fm_inl (by decide)) (fm_dec dtX11_mayWrite 2 rfl) ?_
  refine pv_iloadn (pc := 3) (n := 2) 2 rfl rfl (fm_dec dtX11_mayWrite 3 rfl) ?_
  refine pv_iS2 (d' := 0) (pc := 4) pcs_X11_256 (Nat.le_of_ble_eq_true rfl) (by decide) (fm_dec dtX11_mayWrite 4 rfl) ?_
  refine c_has (fun h4 => ?_) (fun h4 => ?_)
  · refine pv_then1 ?_
    refine pv_if_ne (pc := 7) 26 (by decide) (fm_dec dtX11_mayWrite 5 rfl) (fun _ => ?_) (fun hc7 => by exfalso; revert hc7; decide)
    refine pv_iconst (pc := 26) (v := 0) (by decide) (fm_dec dtX11_mayWrite 17 rfl) ?_
    exact pv_zreturn (pc := 27) rfl (by first | exact Or.inr rfl | exact Or.inl rfl) (fm_dec dtX11_mayWrite 18 rfl) (hf (Or.inl ((has8 _ ho.2.2.1 i hi8).mp (by rw [← e0]; exact h4))))
  · refine pv_then1 ?_
    refine pv_if_ne (pc := 7) 26 (by decide) (fm_dec dtX11_mayWrite 5 rfl) (fun hc7 => by exfalso; revert hc7; decide) (fun _ => ?_)
    refine pv_aloadn (pc := 10) (n := 1) 1 rfl rfl (fm_dec dtX11_mayWrite 6 rfl) ?_
    refine pv_iconst (pc := 11) (v := 1) (by decide) (fm_dec dtX11_mayWrite 7 rfl) ?_
    refine pv_iloadn (pc := 12) (n := 2) 2 rfl rfl (fm_dec dtX11_mayWrite 8 rfl) ?_
    refine pv_iadd (pc := 13) (fm_dec dtX11_mayWrite 9 rfl) ?_
    refine pv_iald (k := 7) (n := 14) (pc := 14) (by decide) rfl rfl (ix_in h1i (by omega)) (fm_dec dtX11_mayWrite 10 rfl) ?_
    rw [i32_cl h1i]
    refine pv_aloadn (pc := 15) (n := 1) 1 rfl rfl (fm_dec dtX11_mayWrite 11 rfl) ?_
    refine pv_bipush (pc := 16) (v := 10) (by decide) (fm_dec dtX11_mayWrite 12 rfl) ?_
    refine pv_iald (k := 7) (n := 14) (pc := 18) (by decide) rfl rfl (fm_inl (by decide)) (fm_dec dtX11_mayWrite 13 rfl) ?_
    refine pv_icmp_eq (pc := 19) 26 (by decide) (fm_dec dtX11_mayWrite 14 rfl) (fun hc19 => ?_) (fun hc19 => ?_)
    · refine pv_iconst (pc := 26) (v := 0) (by decide) (fm_dec dtX11_mayWrite 17 rfl) ?_
      exact pv_zreturn (pc := 27) rfl (by first | exact Or.inr rfl | exact Or.inl rfl) (fm_dec dtX11_mayWrite 18 rfl) (hf (Or.inr (by have h9 := congrArg Int32.toInt hc19; rw [g, g10] at h9; split at h9; omega; omega)))
    · refine pv_iconst (pc := 22) (v := 1) (by decide) (fm_dec dtX11_mayWrite 15 rfl) ?_
      refine pv_goto (pc := 23) 27 (by decide) (fm_dec dtX11_mayWrite 16 rfl) ?_
      exact pv_zreturn (pc := 27) rfl (by first | exact Or.inr rfl | exact Or.inl rfl) (fm_dec dtX11_mayWrite 18 rfl) (ht (fun h9 => h4 (by rw [e0]; exact (has8 _ ho.2.2.1 i hi8).mpr h9)) (fun h9 => hc19 (i32_ext (by rw [g, g10, if_neg (by omega)]; omega))))
def wrM2 (M : fmM) (i : Nat) : fmM := fmI (fmI M 7 9 (M.1 7 9 - hrV M i)) 7 (1 + i) (M.1 7 10)
theorem wr_st {M : fmM} {D : dD} {S : aS} {i : Nat} (hD : dOk D) (hY : mdw M D) (hs : mst M D S) (ho : stO D S) (hi : i < D.1) (hle : hoS D S i ≤ S.1.2.1) : mst (wrM2 M i) D ((S.1.1, S.1.2.1 - hoS D S i, S.1.2.2), fun j => if j = i then 0 else S.2 j) := by
  have hh := hrV_n hD hY hs ho hi
  obtain ⟨a, b, c, d, e, f, g⟩ := hs
  have d8 := hD.1
  have h12 := ho.2.1
  have k : ∀ j, ¬ j = 9 → ¬ j = 1 + i → (wrM2 M i).1 7 j = M.1 7 j := fun j n1 n2 => by
    unfold wrM2
    rw [fmI_j _ _ n2, fmI_j _ _ n1]
  refine ⟨by rw [k 0 (by omega) (by omega)]; exact a, by rw [k 10 (by omega) (by omega)]; exact b, ?_, by rw [k 11 (by omega) (by omega)]; exact d, by rw [k 12 (by omega) (by omega)]; exact e, by rw [k 13 (by omega) (by omega)]; exact f, fun j hj => ?_⟩
  · unfold wrM2
    rw [fmI_j _ _ (by omega), fmI_s, sc_sub (by omega) (by omega)]
    show _ = ((S.1.2.1 - hoS D S i : Nat) : Int)
    omega
  · show _ = if (if j = i then (0 : Int) else S.2 j) = -1 then -1000 else (S.1.1 : Int) - (if j = i then 0 else S.2 j)
    by_cases e0 : j = i
    · subst e0
      unfold wrM2
      rw [fmI_s, if_pos rfl, if_neg (by decide)]
      omega
    · rw [k (1 + j) (by omega) (by omega), if_neg e0]
      exact g j hj
set_option maxRecDepth 20000 in
theorem c_mwri {M : fmM} {Q : fmR → fmM → Prop} {D : dD} {i : Nat} (hD : dOk D) (hY : mdw M D) (hi : i < D.1) (hq : Q (.inl none) (wrM2 M i)) : pvGood Tm 3 qX11_writes [.ref 0, .ref 7, .int (nI i)] M Q := by
  refine pvGood_of (Nat.le_of_ble_eq_true rfl) ?_
  show pvEv Tm 3 qX11_writes 0 [some (.ref 0), some (.ref 7), some (.int (nI i))] [] M Q
  have d8 := hD.1
  have hi9 : (nI i).toInt = (i : Int) := nI_toInt (by omega)
  have hi8 : i < 8 := (by omega)
  have h1i := one_i hi8
  refine pv_aloadn (pc := 0) (n := 1) 1 rfl rfl (fm_dec dtX11_writes 0 rfl) ?_
  refine pv_bipush (pc := 1) (v := 9) (by decide) (fm_dec dtX11_writes 1 rfl) ?_
  refine pv_dup2 (pc := 3) rfl rfl (fm_dec dtX11_writes 2 rfl) ?_
  refine pv_iald (k := 7) (n := 14) (pc := 4) (by decide) rfl rfl (fm_inl (by decide)) (fm_dec dtX11_writes 3 rfl) ?_
  refine pv_aloadn (pc := 5) (n := 0) 0 rfl rfl (fm_dec dtX11_writes 4 rfl) ?_
  refine pv_aloadn (pc := 6) (n := 1) 1 rfl rfl (fm_dec dtX11_writes 5 rfl) ?_
  refine pv_iloadn (pc := 7) (n := 2) 2 rfl rfl (fm_dec dtX11_writes 6 rfl) ?_
  refine pv_invV2 (k := 0) (d' := 2) (pc := 8) pcv_X11_290 (by decide) rfl (Nat.le_of_ble_eq_true rfl) (by decide) (fm_dec dtX11_writes 7 rfl) ?_
  refine c_hours7 hi9 hi8 (h5_ne hD hY) ?_
  refine pv_then1 ?_
  refine pv_isub (pc := 11) (fm_dec dtX11_writes 8 rfl) ?_
  refine pv_iast (k := 7) (n := 14) (pc := 12) (by decide) rfl rfl (fm_inl (by decide)) (fm_dec dtX11_writes 9 rfl) ?_
  refine pv_aloadn (pc := 13) (n := 1) 1 rfl rfl (fm_dec dtX11_writes 10 rfl) ?_
  refine pv_iconst (pc := 14) (v := 1) (by decide) (fm_dec dtX11_writes 11 rfl) ?_
  refine pv_iloadn (pc := 15) (n := 2) 2 rfl rfl (fm_dec dtX11_writes 12 rfl) ?_
  refine pv_iadd (pc := 16) (fm_dec dtX11_writes 13 rfl) ?_
  refine pv_aloadn (pc := 17) (n := 1) 1 rfl rfl (fm_dec dtX11_writes 14 rfl) ?_
  refine pv_bipush (pc := 18) (v := 10) (by decide) (fm_dec dtX11_writes 15 rfl) ?_
  refine pv_iald (k := 7) (n := 14) (pc := 20) (by decide) rfl rfl (fm_inl (by decide)) (fm_dec dtX11_writes 16 rfl) ?_
  refine pv_iast (k := 7) (n := 14) (pc := 21) (by decide) rfl rfl (ix_in h1i (by omega)) (fm_dec dtX11_writes 17 rfl) ?_
  rw [i32_cl h1i]
  exact pv_return (pc := 22) rfl (fm_dec dtX11_writes 18 rfl) hq
def dmM (M : fmM) (c : Int32) (i : Nat) (no : Bool) : fmM := fmI (fmI (if no then fmI (fmI (fmI M 7 13 (M.1 7 13 + c)) 7 11 (M.1 7 11 + 1)) 7 9 (pvMx true 0 (M.1 7 9 - 2)) else fmI (fmI M 7 13 (M.1 7 13 + c)) 7 12 (M.1 7 12 + 1)) 7 0 (M.1 7 0 ||| 1 <<< (nI i &&& 31))) 7 (1 + i) (-1000)
theorem dm_fr {M0 M : fmM} {c : Int32} {i : Nat} {no : Bool} (h : mFr M0 M) : mFr M0 (dmM M c i no) := by
  unfold dmM
  cases no with
  | true => exact (((h.put).put).put).put.put
  | false => exact ((h.put).put).put.put
theorem dm_st {M : fmM} {D : dD} {cs : tC} {S : aS} {i : Nat} {c : Int32} (hD : dOk D) (hs : mst M D S) (ho : stO D S) (hi : i < D.1) (ht : S.1.2.2.1.testBit i = false) (hc : c.toInt = coS D cs S i) : ∃ S', diS D cs S i = some S' ∧ mst (dmM M c i (decide (S.2 i = -1))) D S' := by
  obtain ⟨a, b, c0, d, e, f, g⟩ := hs
  have d8 := hD.1
  have hcb := coS_b (cs := cs) (S := S) hD hi
  have p8 := pop8_le _ ho.2.2.1
  have hp := ho.2.2.2.1
  have h12 := ho.2.1
  have l1 := ho.2.2.2.2.1
  have l2 := ho.2.2.2.2.2.1
  have z0 : (0 : Int32).toInt = 0 := by decide
  have z1 : (1 : Int32).toInt = 1 := by decide
  have z2 : (2 : Int32).toInt = 2 := by decide
  have zm : (-1000 : Int32).toInt = -1000 := by decide
  have e1 : M.1 7 0 = nI S.1.2.2.1 := nI_is a (by have := ho.2.2.1; omega)
  have eo : (M.1 7 0 ||| 1 <<< (nI i &&& 31)).toInt = ((S.1.2.2.1 ||| 1 <<< i : Nat) : Int) := by rw [e1]; exact or8n _ ho.2.2.1 i (by omega)
  have el : (M.1 7 13 + c).toInt = S.1.2.2.2.2.2 + coS D cs S i := by rw [sc_add (by omega) (by omega), f, hc]
  unfold diS
  rw [if_neg (by rw [ht]; decide)]
  by_cases hm : S.2 i = -1
  · rw [if_pos hm]
    refine ⟨_, rfl, ?_⟩
    have e9 : dmM M c i (decide (S.2 i = -1)) = fmI (fmI (fmI (fmI (fmI M 7 13 (M.1 7 13 + c)) 7 11 (M.1 7 11 + 1)) 7 9 (pvMx true 0 (M.1 7 9 - 2))) 7 0 (M.1 7 0 ||| 1 <<< (nI i &&& 31))) 7 (1 + i) (-1000) := by
      unfold dmM
      rw [if_pos (decide_eq_true hm)]
    rw [e9]
    refine ⟨?_, ?_, ?_, ?_, ?_, ?_, fun j hj => ?_⟩
    · rw [fmI_j _ _ (by omega), fmI_s]; exact eo
    · rw [fmI_j _ _ (by omega), fmI_j _ _ (by decide), fmI_j _ _ (by decide), fmI_j _ _ (by decide), fmI_j _ _ (by decide)]; exact b
    · rw [fmI_j _ _ (by omega), fmI_j _ _ (by decide), fmI_s, mxt, sc_sub (by omega) (by omega), z0, z2, c0]
      show _ = ((S.1.2.1 - 2 : Nat) : Int)
      omega
    · rw [fmI_j _ _ (by omega), fmI_j _ _ (by decide), fmI_j _ _ (by decide), fmI_s, sc_add (by omega) (by omega)]
      show _ = ((S.1.2.2.2.1 + 1 : Nat) : Int)
      omega
    · rw [fmI_j _ _ (by omega), fmI_j _ _ (by decide), fmI_j _ _ (by decide), fmI_j _ _ (by decide), fmI_j _ _ (by decide)]; exact e
    · rw [fmI_j _ _ (by omega), fmI_j _ _ (by decide), fmI_j _ _ (by decide), fmI_j _ _ (by decide), fmI_s]; exact el
    · show _ = if S.2 j = -1 then -1000 else (S.1.1 : Int) - S.2 j
      by_cases e0 : j = i
      · subst e0
        rw [fmI_s, if_pos hm]
        exact zm
      · rw [fmI_j _ _ (by omega), fmI_j _ _ (by omega), fmI_j _ _ (by omega), fmI_j _ _ (by omega), fmI_j _ _ (by omega)]
        exact g j hj
  · rw [if_neg hm]
    refine ⟨_, rfl, ?_⟩
    have e9 : dmM M c i (decide (S.2 i = -1)) = fmI (fmI (fmI (fmI M 7 13 (M.1 7 13 + c)) 7 12 (M.1 7 12 + 1)) 7 0 (M.1 7 0 ||| 1 <<< (nI i &&& 31))) 7 (1 + i) (-1000) := by
      unfold dmM
      rw [if_neg (by rw [decide_eq_true_eq]; exact hm)]
    rw [e9]
    refine ⟨?_, ?_, ?_, ?_, ?_, ?_, fun j hj => ?_⟩
    · rw [fmI_j _ _ (by omega), fmI_s]; exact eo
    · rw [fmI_j _ _ (by omega), fmI_j _ _ (by decide), fmI_j _ _ (by decide), fmI_j _ _ (by decide)]; exact b
    · rw [fmI_j _ _ (by omega), fmI_j _ _ (by decide), fmI_j _ _ (by decide), fmI_j _ _ (by decide)]; exact c0
    · rw [fmI_j _ _ (by omega), fmI_j _ _ (by decide), fmI_j _ _ (by decide), fmI_j _ _ (by decide)]; exact d
    · rw [fmI_j _ _ (by omega), fmI_j _ _ (by decide), fmI_s, sc_add (by omega) (by omega)]
      show _ = ((S.1.2.2.2.2.1 + 1 : Nat) : Int)
      omega
    · rw [fmI_j _ _ (by omega), fmI_j _ _ (by decide), fmI_j _ _ (by decide), fmI_s]; exact el
    · show _ = if (if j = i then (-1 : Int) else S.2 j) = -1 then -1000 else (S.1.1 : Int) - (if j = i then -1 else S.2 j)
      by_cases e0 : j = i
      · subst e0
        rw [fmI_s, if_pos rfl, if_pos rfl]
        exact zm
      · rw [fmI_j _ _ (by omega), fmI_j _ _ (by omega), fmI_j _ _ (by omega), fmI_j _ _ (by omega), if_neg e0]
        exact g j hj
set_option maxRecDepth 20000 in
theorem c_mcof {M : fmM} {Q : fmR → fmM → Prop} {D : dD} {cs : tC} {S : aS} {i : Nat} (hD : dOk D) (hY : mdw M D) (hL : lwM M cs) (hd : cs = [] ∨ dpB 23 0 cs = some 1) (hs : mst M D S) (ho : stO D S) (hi : i < D.1) (ht : S.1.2.2.1.testBit i = false) (hq : ∀ (M' : fmM) (r : Int32), (∀ k j, k ≠ 5 → k ≠ 6 → M'.1 k j = M.1 k j) → M'.2 = M.2 → r.toInt = coS D cs S i → Q (.inl (some (.int r))) M') : pvGood Tm 7 qX11_costOf [.ref 0, .ref 7, .int (nI i)] M Q := by
  refine pvGood_of (Nat.le_of_ble_eq_true rfl) ?_
  show pvEv Tm 7 qX11_costOf 0 [some (.ref 0), some (.ref 7), some (.int (nI i))] [] M Q
  have d8 := hD.1
  have hi9 : (nI i).toInt = (i : Int) := nI_toInt (by omega)
  have hi8 : i < 8 := (by omega)
  have h1i := one_i hi8
  have e0 : M.1 7 (Int32.toNatClampNeg 0) = nI S.1.2.2.1 := nI_is hs.1 (by have := ho.2.2.1; omega)
  refine pv_aloadn (pc := 0) (n := 1) 1 rfl rfl (fm_dec dtX11_costOf 0 rfl) ?_
  refine pv_iconst (pc := 1) (v := 0) (by decide) (fm_dec dtX11_costOf 1 rfl) ?_
  refine pv_iald (k := 7) (n := 14) (pc := 2) (by decide) rfl rfl (fm_inl (by decide)) (fm_dec dtX11_costOf 2 rfl) ?_
  refine pv_iloadn (pc := 3) (n := 2) 2 rfl rfl (fm_dec dtX11_costOf 3 rfl) ?_
  refine pv_iS2 (d' := 0) (pc := 4) pcs_X11_256 (Nat.le_of_ble_eq_true rfl) (by decide) (fm_dec dtX11_costOf 4 rfl) ?_
  refine c_has (fun h4 => ?_) (fun h4 => ?_)
  · refine pv_then1 ?_
    refine pv_if_eq (pc := 7) 14 (by decide) (fm_dec dtX11_costOf 5 rfl) (fun hc7 => by exfalso; revert hc7; decide) (fun _ => ?_)
    refine pv_iconst (pc := 10) (v := 0) (by decide) (fm_dec dtX11_costOf 6 rfl) ?_
    refine pv_goto (pc := 11) 29 (by decide) (fm_dec dtX11_costOf 7 rfl) ?_
    exact pv_ireturn (pc := 29) rfl (fm_dec dtX11_costOf 20 rfl) (by exfalso; have h9 := (has8 _ ho.2.2.1 i hi8).mp (by rw [← e0]; exact h4); rw [ht] at h9; cases h9)
  · refine pv_then1 ?_
    refine pv_if_eq (pc := 7) 14 (by decide) (fm_dec dtX11_costOf 5 rfl) (fun _ => ?_) (fun hc7 => by exfalso; revert hc7; decide)
    refine pv_aloadn (pc := 14) (n := 0) 0 rfl rfl (fm_dec dtX11_costOf 8 rfl) ?_
    refine pv_aloadn (pc := 15) (n := 1) 1 rfl rfl (fm_dec dtX11_costOf 9 rfl) ?_
    refine pv_iloadn (pc := 16) (n := 2) 2 rfl rfl (fm_dec dtX11_costOf 10 rfl) ?_
    refine pv_aloadn (pc := 17) (n := 1) 1 rfl rfl (fm_dec dtX11_costOf 11 rfl) ?_
    refine pv_iconst (pc := 18) (v := 1) (by decide) (fm_dec dtX11_costOf 12 rfl) ?_
    refine pv_iloadn (pc := 19) (n := 2) 2 rfl rfl (fm_dec dtX11_costOf 13 rfl) ?_
    refine pv_iadd (pc := 20) (fm_dec dtX11_costOf 14 rfl) ?_
    refine pv_iald (k := 7) (n := 14) (pc := 21) (by decide) rfl rfl (ix_in h1i (by omega)) (fm_dec dtX11_costOf 15 rfl) ?_
    rw [i32_cl h1i]
    refine pv_aloadn (pc := 22) (n := 1) 1 rfl rfl (fm_dec dtX11_costOf 16 rfl) ?_
    refine pv_bipush (pc := 23) (v := 10) (by decide) (fm_dec dtX11_costOf 17 rfl) ?_
    refine pv_iald (k := 7) (n := 14) (pc := 25) (by decide) rfl rfl (fm_inl (by decide)) (fm_dec dtX11_costOf 18 rfl) ?_
    refine pv_invV4 (k := 0) (d' := 6) (pc := 26) pcv_X11_280 (by decide) rfl (Nat.le_of_ble_eq_true rfl) (by decide) (fm_dec dtX11_costOf 19 rfl) ?_
    refine c_mco hD hY hL hd hs ho hi hs.2.1 (hs.2.2.2.2.2.2 i hi) (fun M26 r26 g26 h26 e26 => ?_)
    refine pv_then1 ?_
    exact pv_ireturn (pc := 29) rfl (fm_dec dtX11_costOf 20 rfl) (hq M26 r26 g26 h26 e26)
set_option maxRecDepth 20000 in
theorem c_mdie {M : fmM} {Q : fmR → fmM → Prop} {D : dD} {cs : tC} {S : aS} {i : Nat} (hD : dOk D) (hY : mdw M D) (hL : lwM M cs) (hd : cs = [] ∨ dpB 23 0 cs = some 1) (hs : mst M D S) (ho : stO D S) (hi : i < D.1) (ht : S.1.2.2.1.testBit i = false) (hq : ∀ (M' : fmM) (S' : aS), diS D cs S i = some S' → mst M' D S' → mFr M M' → Q (.inl none) M') : pvGood Tm 8 qX11_dies [.ref 0, .ref 7, .int (nI i)] M Q := by
  refine pvGood_of (Nat.le_of_ble_eq_true rfl) ?_
  show pvEv Tm 8 qX11_dies 0 [some (.ref 0), some (.ref 7), some (.int (nI i)), none] [] M Q
  have d8 := hD.1
  have hi9 : (nI i).toInt = (i : Int) := nI_toInt (by omega)
  have hi8 : i < 8 := (by omega)
  have h1i := one_i hi8
  refine pv_aloadn (pc := 0) (n := 0) 0 rfl rfl (fm_dec dtX11_dies 0 rfl) ?_
  refine pv_aloadn (pc := 1) (n := 1) 1 rfl rfl (fm_dec dtX11_dies 1 rfl) ?_
  refine pv_iloadn (pc := 2) (n := 2) 2 rfl rfl (fm_dec dtX11_dies 2 rfl) ?_
  refine pv_invV2 (k := 0) (d' := 7) (pc := 3) pcv_X11_293 (by decide) rfl (Nat.le_of_ble_eq_true rfl) (by decide) (fm_dec dtX11_dies 3 rfl) ?_
  refine c_mcof hD hY hL hd hs ho hi ht (fun M6 r6 g6 h6 e6 => ?_)
  refine pv_then1 ?_
  refine pv_istoren (pc := 6) (n := 3) 3 rfl (by decide) rfl (fm_dec dtX11_dies 4 rfl) ?_
  dsimp only [List.set_cons_zero, List.set_cons_succ]
  have hs6 : mst M6 D S := hs.of (fun j => g6 7 j (by decide) (by decide))
  obtain ⟨S9, e9, h9⟩ := dm_st (cs := cs) hD hs6 ho hi ht e6
  have f9 : mFr M (dmM M6 r6 i (decide (S.2 i = -1))) := dm_fr ⟨fun k j a b _ => g6 k j a b, h6⟩
  have n9 : (fmI M6 7 13 (M6.1 7 13 + r6)).1 7 (1 + i) = M6.1 7 (1 + i) := fmI_j _ _ (by omega)
  refine pv_aloadn (pc := 7) (n := 1) 1 rfl rfl (fm_dec dtX11_dies 5 rfl) ?_
  refine pv_bipush (pc := 8) (v := 13) (by decide) (fm_dec dtX11_dies 6 rfl) ?_
  refine pv_dup2 (pc := 10) rfl rfl (fm_dec dtX11_dies 7 rfl) ?_
  refine pv_iald (k := 7) (n := 14) (pc := 11) (by decide) rfl rfl (fm_inl (by decide)) (fm_dec dtX11_dies 8 rfl) ?_
  refine pv_iloadn (pc := 12) (n := 3) 3 rfl rfl (fm_dec dtX11_dies 9 rfl) ?_
  refine pv_iadd (pc := 13) (fm_dec dtX11_dies 10 rfl) ?_
  refine pv_iast (k := 7) (n := 14) (pc := 14) (by decide) rfl rfl (fm_inl (by decide)) (fm_dec dtX11_dies 11 rfl) ?_
  refine pv_aloadn (pc := 15) (n := 1) 1 rfl rfl (fm_dec dtX11_dies 12 rfl) ?_
  refine pv_iloadn (pc := 16) (n := 2) 2 rfl rfl (fm_dec dtX11_dies 13 rfl) ?_
  refine pv_iS2 (d' := 0) (pc := 17) pcs_X11_283 (Nat.le_of_ble_eq_true rfl) (by decide) (fm_dec dtX11_dies 14 rfl) ?_
  refine c_hasPiece7 hi9 hi8 (fun h17 => ?_) (fun h17 => ?_)
  · refine pv_then1 ?_
    refine pv_if_eq (pc := 20) 34 (by decide) (fm_dec dtX11_dies 15 rfl) (fun hc20 => by exfalso; revert hc20; decide) (fun _ => ?_)
    refine pv_aloadn (pc := 23) (n := 1) 1 rfl rfl (fm_dec dtX11_dies 16 rfl) ?_
    refine pv_bipush (pc := 24) (v := 12) (by decide) (fm_dec dtX11_dies 17 rfl) ?_
    refine pv_dup2 (pc := 26) rfl rfl (fm_dec dtX11_dies 18 rfl) ?_
    refine pv_iald (k := 7) (n := 14) (pc := 27) (by decide) rfl rfl (fm_inl (by decide)) (fm_dec dtX11_dies 19 rfl) ?_
    refine pv_iconst (pc := 28) (v := 1) (by decide) (fm_dec dtX11_dies 20 rfl) ?_
    refine pv_iadd (pc := 29) (fm_dec dtX11_dies 21 rfl) ?_
    refine pv_iast (k := 7) (n := 14) (pc := 30) (by decide) rfl rfl (fm_inl (by decide)) (fm_dec dtX11_dies 22 rfl) ?_
    refine pv_goto (pc := 31) 56 (by decide) (fm_dec dtX11_dies 23 rfl) ?_
    refine pv_aloadn (pc := 56) (n := 1) 1 rfl rfl (fm_dec dtX11_dies 41 rfl) ?_
    refine pv_iconst (pc := 57) (v := 0) (by decide) (fm_dec dtX11_dies 42 rfl) ?_
    refine pv_dup2 (pc := 58) rfl rfl (fm_dec dtX11_dies 43 rfl) ?_
    refine pv_iald (k := 7) (n := 14) (pc := 59) (by decide) rfl rfl (fm_inl (by decide)) (fm_dec dtX11_dies 44 rfl) ?_
    refine pv_iconst (pc := 60) (v := 1) (by decide) (fm_dec dtX11_dies 45 rfl) ?_
    refine pv_iloadn (pc := 61) (n := 2) 2 rfl rfl (fm_dec dtX11_dies 46 rfl) ?_
    refine pv_ishl (pc := 62) (fm_dec dtX11_dies 47 rfl) ?_
    refine pv_ior (pc := 63) (fm_dec dtX11_dies 48 rfl) ?_
    refine pv_iast (k := 7) (n := 14) (pc := 64) (by decide) rfl rfl (fm_inl (by decide)) (fm_dec dtX11_dies 49 rfl) ?_
    refine pv_aloadn (pc := 65) (n := 1) 1 rfl rfl (fm_dec dtX11_dies 50 rfl) ?_
    refine pv_iconst (pc := 66) (v := 1) (by decide) (fm_dec dtX11_dies 51 rfl) ?_
    refine pv_iloadn (pc := 67) (n := 2) 2 rfl rfl (fm_dec dtX11_dies 52 rfl) ?_
    refine pv_iadd (pc := 68) (fm_dec dtX11_dies 53 rfl) ?_
    refine pv_sipush (pc := 69) (v := (-1000)) (by decide) (fm_dec dtX11_dies 54 rfl) ?_
    refine pv_iast (k := 7) (n := 14) (pc := 72) (by decide) rfl rfl (ix_in h1i (by omega)) (fm_dec dtX11_dies 55 rfl) ?_
    rw [i32_cl h1i]
    exact pv_return (pc := 73) rfl (fm_dec dtX11_dies 56 rfl) (by first | (have hm : ¬ S.2 i = -1 := (fun h8 => h17 (n9.trans ((hs6.no ho hi).mpr h8))); have e8 : dmM M6 r6 i (decide (S.2 i = -1)) = _ := (by unfold dmM; rw [if_neg (by rw [decide_eq_true_eq]; exact hm)]); rw [e8] at h9 f9; exact hq _ S9 e9 h9 f9) | (have hm : S.2 i = -1 := (hs6.no ho hi).mp (n9.symm.trans h17); have e8 : dmM M6 r6 i (decide (S.2 i = -1)) = _ := (by unfold dmM; rw [if_pos (decide_eq_true hm)]); rw [e8] at h9 f9; exact hq _ S9 e9 h9 f9))
  · refine pv_then1 ?_
    refine pv_if_eq (pc := 20) 34 (by decide) (fm_dec dtX11_dies 15 rfl) (fun _ => ?_) (fun hc20 => by exfalso; revert hc20; decide)
    refine pv_aloadn (pc := 34) (n := 1) 1 rfl rfl (fm_dec dtX11_dies 24 rfl) ?_
    refine pv_bipush (pc := 35) (v := 11) (by decide) (fm_dec dtX11_dies 25 rfl) ?_
    refine pv_dup2 (pc := 37) rfl rfl (fm_dec dtX11_dies 26 rfl) ?_
    refine pv_iald (k := 7) (n := 14) (pc := 38) (by decide) rfl rfl (fm_inl (by decide)) (fm_dec dtX11_dies 27 rfl) ?_
    refine pv_iconst (pc := 39) (v := 1) (by decide) (fm_dec dtX11_dies 28 rfl) ?_
    refine pv_iadd (pc := 40) (fm_dec dtX11_dies 29 rfl) ?_
    refine pv_iast (k := 7) (n := 14) (pc := 41) (by decide) rfl rfl (fm_inl (by decide)) (fm_dec dtX11_dies 30 rfl) ?_
    refine pv_aloadn (pc := 42) (n := 1) 1 rfl rfl (fm_dec dtX11_dies 31 rfl) ?_
    refine pv_bipush (pc := 43) (v := 9) (by decide) (fm_dec dtX11_dies 32 rfl) ?_
    refine pv_iconst (pc := 45) (v := 0) (by decide) (fm_dec dtX11_dies 33 rfl) ?_
    refine pv_aloadn (pc := 46) (n := 1) 1 rfl rfl (fm_dec dtX11_dies 34 rfl) ?_
    refine pv_bipush (pc := 47) (v := 9) (by decide) (fm_dec dtX11_dies 35 rfl) ?_
    refine pv_iald (k := 7) (n := 14) (pc := 49) (by decide) rfl rfl (fm_inl (by decide)) (fm_dec dtX11_dies 36 rfl) ?_
    refine pv_iconst (pc := 50) (v := 2) (by decide) (fm_dec dtX11_dies 37 rfl) ?_
    refine pv_isub (pc := 51) (fm_dec dtX11_dies 38 rfl) ?_
    refine pv_mm (pc := 52) pmm_X11_240 (by decide) (Nat.le_of_ble_eq_true rfl) (fm_dec dtX11_dies 39 rfl) ?_
    refine pv_iast (k := 7) (n := 14) (pc := 55) (by decide) rfl rfl (fm_inl (by decide)) (fm_dec dtX11_dies 40 rfl) ?_
    refine pv_aloadn (pc := 56) (n := 1) 1 rfl rfl (fm_dec dtX11_dies 41 rfl) ?_
    refine pv_iconst (pc := 57) (v := 0) (by decide) (fm_dec dtX11_dies 42 rfl) ?_
    refine pv_dup2 (pc := 58) rfl rfl (fm_dec dtX11_dies 43 rfl) ?_
    refine pv_iald (k := 7) (n := 14) (pc := 59) (by decide) rfl rfl (fm_inl (by decide)) (fm_dec dtX11_dies 44 rfl) ?_
    refine pv_iconst (pc := 60) (v := 1) (by decide) (fm_dec dtX11_dies 45 rfl) ?_
    refine pv_iloadn (pc := 61) (n := 2) 2 rfl rfl (fm_dec dtX11_dies 46 rfl) ?_
    refine pv_ishl (pc := 62) (fm_dec dtX11_dies 47 rfl) ?_
    refine pv_ior (pc := 63) (fm_dec dtX11_dies 48 rfl) ?_
    refine pv_iast (k := 7) (n := 14) (pc := 64) (by decide) rfl rfl (fm_inl (by decide)) (fm_dec dtX11_dies 49 rfl) ?_
    refine pv_aloadn (pc := 65) (n := 1) 1 rfl rfl (fm_dec dtX11_dies 50 rfl) ?_
    refine pv_iconst (pc := 66) (v := 1) (by decide) (fm_dec dtX11_dies 51 rfl) ?_
    refine pv_iloadn (pc := 67) (n := 2) 2 rfl rfl (fm_dec dtX11_dies 52 rfl) ?_
    refine pv_iadd (pc := 68) (fm_dec dtX11_dies 53 rfl) ?_
    refine pv_sipush (pc := 69) (v := (-1000)) (by decide) (fm_dec dtX11_dies 54 rfl) ?_
    refine pv_iast (k := 7) (n := 14) (pc := 72) (by decide) rfl rfl (ix_in h1i (by omega)) (fm_dec dtX11_dies 55 rfl) ?_
    rw [i32_cl h1i]
    exact pv_return (pc := 73) rfl (fm_dec dtX11_dies 56 rfl) (by first | (have hm : ¬ S.2 i = -1 := (fun h8 => h17 (n9.trans ((hs6.no ho hi).mpr h8))); have e8 : dmM M6 r6 i (decide (S.2 i = -1)) = _ := (by unfold dmM; rw [if_neg (by rw [decide_eq_true_eq]; exact hm)]); rw [e8] at h9 f9; exact hq _ S9 e9 h9 f9) | (have hm : S.2 i = -1 := (hs6.no ho hi).mp (n9.symm.trans h17); have e8 : dmM M6 r6 i (decide (S.2 i = -1)) = _ := (by unfold dmM; rw [if_pos (decide_eq_true hm)]); rw [e8] at h9 f9; exact hq _ S9 e9 h9 f9))
set_option maxRecDepth 20000 in
theorem c_mweek {M : fmM} {Q : fmR → fmM → Prop} {D : dD} {S : aS} (hD : dOk D) (hY : mdw M D) (hs : mst M D S) (ho : stO D S) (hn : weS D S = none → Q (.inl (some (.int 0))) M) (hq : ∀ (M' : fmM) (S' : aS), weS D S = some S' → mst M' D S' → mFr M M' → Q (.inl (some (.int 1))) M') : pvGood Tm 0 qX11_weekEnds [.ref 0, .ref 7] M Q := by
  refine pvGood_of (Nat.le_of_ble_eq_true rfl) ?_
  show pvEv Tm 0 qX11_weekEnds 0 [some (.ref 0), some (.ref 7)] [] M Q
  have z200 : (200 : Int32).toInt = 200 := (by decide)
  have b2 := hD.2.2.2.2.1
  have w2 := ho.1
  have g10 : (M.1 7 (Int32.toNatClampNeg 10)).toInt = (S.1.1 : Int) := hs.2.1
  refine pv_aloadn (pc := 0) (n := 1) 1 rfl rfl (fm_dec dtX11_weekEnds 0 rfl) ?_
  refine pv_bipush (pc := 1) (v := 10) (by decide) (fm_dec dtX11_weekEnds 1 rfl) ?_
  refine pv_iald (k := 7) (n := 14) (pc := 3) (by decide) rfl rfl (fm_inl (by decide)) (fm_dec dtX11_weekEnds 2 rfl) ?_
  refine pv_sipush (pc := 4) (v := 200) (by decide) (fm_dec dtX11_weekEnds 3 rfl) ?_
  refine pv_icmp_ne (pc := 7) 12 (by decide) (fm_dec dtX11_weekEnds 4 rfl) (fun hc7 => ?_) (fun hc7 => ?_)
  · refine pv_aloadn (pc := 12) (n := 1) 1 rfl rfl (fm_dec dtX11_weekEnds 7 rfl) ?_
    refine pv_bipush (pc := 13) (v := 10) (by decide) (fm_dec dtX11_weekEnds 8 rfl) ?_
    refine pv_dup2 (pc := 15) rfl rfl (fm_dec dtX11_weekEnds 9 rfl) ?_
    refine pv_iald (k := 7) (n := 14) (pc := 16) (by decide) rfl rfl (fm_inl (by decide)) (fm_dec dtX11_weekEnds 10 rfl) ?_
    refine pv_iconst (pc := 17) (v := 1) (by decide) (fm_dec dtX11_weekEnds 11 rfl) ?_
    refine pv_iadd (pc := 18) (fm_dec dtX11_weekEnds 12 rfl) ?_
    refine pv_iast (k := 7) (n := 14) (pc := 19) (by decide) rfl rfl (fm_inl (by decide)) (fm_dec dtX11_weekEnds 13 rfl) ?_
    refine pv_aloadn (pc := 20) (n := 1) 1 rfl rfl (fm_dec dtX11_weekEnds 14 rfl) ?_
    refine pv_bipush (pc := 21) (v := 9) (by decide) (fm_dec dtX11_weekEnds 15 rfl) ?_
    refine pv_aloadn (pc := 23) (n := 0) 0 rfl rfl (fm_dec dtX11_weekEnds 16 rfl) ?_
    refine pv_getR (k := 0) (j := 12) (ci := 11) (pc := 24) 4 rfl (by decide) pfl_X11_23 (by decide) rfl (by decide) (fm_dec dtX11_weekEnds 17 rfl) ?_
    refine pv_iconst (pc := 27) (v := 2) (by decide) (fm_dec dtX11_weekEnds 18 rfl) ?_
    refine pv_iald (k := 4) (n := 6) (pc := 28) (by decide) rfl rfl (fm_inl (by decide)) (fm_dec dtX11_weekEnds 19 rfl) ?_
    refine pv_iast (k := 7) (n := 14) (pc := 29) (by decide) rfl rfl (fm_inl (by decide)) (fm_dec dtX11_weekEnds 20 rfl) ?_
    refine pv_iconst (pc := 30) (v := 1) (by decide) (fm_dec dtX11_weekEnds 21 rfl) ?_
    exact pv_zreturn (pc := 31) rfl (by first | exact Or.inr rfl | exact Or.inl rfl) (fm_dec dtX11_weekEnds 22 rfl) (hq _ _ (if_neg (fun h9 => hc7 (i32_ext (by omega)))) ⟨hs.1, (by show (M.1 7 10 + 1).toInt = ((S.1.1 + 1 : Nat) : Int); exact i32_p1 hs.2.1 (by omega)), (by show (M.1 4 2).toInt = (((D.2.2.2.2 2).toNat : Nat) : Int); have g := hY.2.2.1 2 (by decide) (by decide); omega), hs.2.2.2.1, hs.2.2.2.2.1, hs.2.2.2.2.2.1, fun i hi => (by have d8 := hD.1; have g := hs.2.2.2.2.2.2 i hi; have bs := ho.2.2.2.2.2.2.1 i hi; show _ = if (if S.2 i = -1 then (-1 : Int) else S.2 i + 1) = -1 then -1000 else ((S.1.1 + 1 : Nat) : Int) - (if S.2 i = -1 then (-1 : Int) else S.2 i + 1); rw [fmI_j _ _ (by show ¬ 1 + i = 9; omega), fmI_j _ _ (by show ¬ 1 + i = 10; omega), g]; split; rfl; rw [if_neg (by omega)]; omega)⟩ ((mFr.refl M).put.put))
  · refine pv_iconst (pc := 10) (v := 0) (by decide) (fm_dec dtX11_weekEnds 5 rfl) ?_
    exact pv_zreturn (pc := 11) rfl (by first | exact Or.inr rfl | exact Or.inl rfl) (fm_dec dtX11_weekEnds 6 rfl) (hn (if_pos (by have h9 := congrArg Int32.toInt hc7; omega)))
