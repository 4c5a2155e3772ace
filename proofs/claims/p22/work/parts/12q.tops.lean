-- THE REFERENCE: tops by hand
def tI (r : fmR) : Prop := ∃ n : Int32, r = .inl (some (.int n))
def tJ (r : fmR) : Prop := ∃ n : Int64, r = .inl (some (.long n))
theorem scInv.p00 {M : fmM} {x : Int32} (hI : scInv Tm invM M) (hx : x = 0 ∨ x = 1 ∨ x = 2) : scInv Tm invM (fmI M 0 0 x) := hI.put (k := 0) (j := 0) (x := x) (by rcases hx with rfl | rfl | rfl <;> decide) rfl
theorem scInv.p2 {M : fmM} {x : Int32} {j : Nat} (hI : scInv Tm invM M) : scInv Tm invM (fmI M 2 j x) := scInvM_top 2 rfl (fun j => rfl) hI (fun q j hq => by rw [fmI_k _ _ hq])
theorem told8 {M : fmM} (hI : scInv Tm invM M) : ∃ l : Nat, (M.1 4 0).toInt = l ∧ l ≤ 8 := ⟨(M.1 4 0).toInt.toNat, by
  have h1 : 0 ≤ (M.1 4 0).toInt := (hI.1 4 0 (by decide)).1
  omega, by
  have h2 : (M.1 4 0).toInt ≤ 8 := (hI.1 4 0 (by decide)).2
  omega⟩
def pop8 (w : Nat) : Nat := ((List.range 8).map (fun k => if w.testBit k then 1 else 0)).sum
theorem pop8_le : ∀ w, w < 256 → pop8 w ≤ 8 := by decide +kernel
theorem pop8_add : ∀ w, w < 256 → ∀ k, k < 8 → w.testBit k = false → pop8 (w ||| 1 <<< k) = pop8 w + 1 ∧ w ||| 1 <<< k < 256 := by decide +kernel
theorem or8 : ∀ w, w < 256 → ∀ k, k < 8 → (nI w ||| (1 : Int32) <<< (nI k &&& 31)) = nI (w ||| 1 <<< k) := by decide +kernel
theorem has8 : ∀ w, w < 256 → ∀ k, k < 8 → ((nI w >>> (nI k &&& 31) &&& 1) = (1 : Int32) ↔ w.testBit k = true) := by decide +kernel
theorem one8 : ∀ k, k < 8 → ((1 : Int32) <<< (nI k &&& 31)) = nI (1 <<< k) ∧ 1 <<< k < 256 := by decide +kernel
theorem by_7 {M : fmM} {k : Nat} (hI : scInv Tm invM M) (hk : k < 8) : -1 ≤ (M.1 (35 + k) 5).toInt ∧ (M.1 (35 + k) 5).toInt ≤ 7 := by
  have h := hI.1 (35 + k) 5 (by rw [(rw_life.2.2.2 k hk).2.2.2.2]; decide)
  rcases (show k = 0 ∨ k = 1 ∨ k = 2 ∨ k = 3 ∨ k = 4 ∨ k = 5 ∨ k = 6 ∨ k = 7 by omega) with rfl | rfl | rfl | rfl | rfl | rfl | rfl | rfl <;> exact h
theorem by_k {M : fmM} {k : Nat} {x : Int32} (hx : x = M.1 (35 + k) 5) (hI : scInv Tm invM M) (hk : k < 8) (h : ¬ x = -1) : ∃ v : Nat, v < 8 ∧ x = nI v ∧ x.toInt = v := by
  have h7 := by_7 hI hk
  rw [← hx] at h7
  have h1 : ¬ x.toInt = -1 := fun e => h (i32_ext (e.trans (by decide)))
  exact ⟨x.toInt.toNat, by omega, nI_is (by omega) (by omega), by omega⟩
set_option maxRecDepth 20000 in
theorem c_isLife {M : fmM} {Q : fmR → fmM → Prop} {i : Int32} {l : Nat} (h4 : (M.1 4 0).toInt = l) (hl : l ≤ 8) (ht : ∀ k : Nat, i.toInt = k → k < l → Q (.inl (some (.int 1))) M) (hf : ¬ (0 ≤ i.toInt ∧ i.toInt < l) → Q (.inl (some (.int 0))) M) : pvGood Tm 1 qX11_isLife [.ref 0, .int i] M Q := by
  refine pvGood_of (Nat.le_of_ble_eq_true rfl) ?_
  show pvEv Tm 1 qX11_isLife 0 [some (.ref 0), some (.int i)] [] M Q
  refine pv_iloadn (pc := 0) (n := 1) 1 rfl rfl (fm_dec dtX11_isLife 0 rfl) ?_
  refine pv_iconst (pc := 1) (v := 0) (by decide) (fm_dec dtX11_isLife 1 rfl) ?_
  refine pv_aloadn (pc := 2) (n := 0) 0 rfl rfl (fm_dec dtX11_isLife 2 rfl) ?_
  refine pv_getR (k := 0) (j := 12) (ci := 11) (pc := 3) 4 rfl (by decide) pfl_X11_23 (by decide) rfl (by decide) (fm_dec dtX11_isLife 3 rfl) ?_
  refine pv_iconst (pc := 6) (v := 0) (by decide) (fm_dec dtX11_isLife 4 rfl) ?_
  refine pv_iald (k := 4) (n := 6) (pc := 7) (by decide) rfl rfl (fm_inl (by decide)) (fm_dec dtX11_isLife 5 rfl) ?_
  refine pv_iconst (pc := 8) (v := 1) (by decide) (fm_dec dtX11_isLife 6 rfl) ?_
  refine pv_isub (pc := 9) (fm_dec dtX11_isLife 7 rfl) ?_
  refine pv_iS3 (d' := 0) (pc := 10) pcs_X11_135 (Nat.le_of_ble_eq_true rfl) (by decide) (fm_dec dtX11_isLife 8 rfl) ?_
  refine c_in (fun h1 h2 => ?_) (fun h1 => ?_)
  · refine pv_then1 ?_
    exact pv_zreturn (pc := 13) rfl (by first | exact Or.inr rfl | exact Or.inl rfl) (fm_dec dtX11_isLife 9 rfl) (ht i.toInt.toNat (by have h9 : (0 : Int32).toInt = 0 := (by decide); omega) (by have h8 : i.toInt ≤ (M.1 4 0 - 1).toInt := h2; rw [lh_hi h4 hl] at h8; have h9 : (0 : Int32).toInt = 0 := (by decide); omega))
  · refine pv_then1 ?_
    exact pv_zreturn (pc := 13) rfl (by first | exact Or.inr rfl | exact Or.inl rfl) (fm_dec dtX11_isLife 9 rfl) (hf (fun h9 => h1 ⟨by have h8 : (0 : Int32).toInt = 0 := (by decide); omega, by show i.toInt ≤ (M.1 4 0 - 1).toInt; rw [lh_hi h4 hl]; omega⟩))
set_option maxRecDepth 20000 in
theorem c_noPart1 {M : fmM} {Q : fmR → fmM → Prop} {p : Int32} (h0 : M.1 0 0 = 0) (ht : 0 ≤ p.toInt → p.toInt ≤ 1 → Q (.inl (some (.int 0))) M) (hf : ¬ (0 ≤ p.toInt ∧ p.toInt ≤ 1) → Q (.inl (some (.int 1))) (fmI (fmI M 0 0 1) 2 1 (M.1 2 1 + 1))) : pvGood Tm 1 qX11_noPart [.ref 0, .int p, .int 1] M Q := by
  refine pvGood_of (Nat.le_of_ble_eq_true rfl) ?_
  show pvEv Tm 1 qX11_noPart 0 [some (.ref 0), some (.int p), some (.int 1)] [] M Q
  refine pv_aloadn (pc := 0) (n := 0) 0 rfl rfl (fm_dec dtX11_noPart 0 rfl) ?_
  refine pv_iloadn (pc := 1) (n := 1) 1 rfl rfl (fm_dec dtX11_noPart 1 rfl) ?_
  refine pv_iconst (pc := 2) (v := 0) (by decide) (fm_dec dtX11_noPart 2 rfl) ?_
  refine pv_iconst (pc := 3) (v := 1) (by decide) (fm_dec dtX11_noPart 3 rfl) ?_
  refine pv_iS3 (d' := 0) (pc := 4) pcs_X11_135 (Nat.le_of_ble_eq_true rfl) (by decide) (fm_dec dtX11_noPart 4 rfl) ?_
  refine c_in (fun h4a h4b => ?_) (fun h4 => ?_)
  · refine pv_then1 ?_
    refine pv_if_ne (pc := 7) 14 (by decide) (fm_dec dtX11_noPart 5 rfl) (fun _ => ?_) (fun hc7 => by exfalso; revert hc7; decide)
    refine pv_iconst (pc := 14) (v := 0) (by decide) (fm_dec dtX11_noPart 8 rfl) ?_
    refine pv_iloadn (pc := 15) (n := 2) 2 rfl rfl (fm_dec dtX11_noPart 9 rfl) ?_
    refine pv_iconst (pc := 16) (v := 1) (by decide) (fm_dec dtX11_noPart 10 rfl) ?_
    refine pv_invV3 (k := 0) (d' := 0) (pc := 17) pcv_X11_177 (by decide) rfl (Nat.le_of_ble_eq_true rfl) (by decide) (fm_dec dtX11_noPart 11 rfl) ?_
    refine c_badF1 h0 ?_
    refine pv_then1 ?_
    exact pv_zreturn (pc := 20) rfl (by first | exact Or.inr rfl | exact Or.inl rfl) (fm_dec dtX11_noPart 12 rfl) (ht h4a h4b)
  · refine pv_then1 ?_
    refine pv_if_ne (pc := 7) 14 (by decide) (fm_dec dtX11_noPart 5 rfl) (fun hc7 => by exfalso; revert hc7; decide) (fun _ => ?_)
    refine pv_iconst (pc := 10) (v := 1) (by decide) (fm_dec dtX11_noPart 6 rfl) ?_
    refine pv_goto (pc := 11) 15 (by decide) (fm_dec dtX11_noPart 7 rfl) ?_
    refine pv_iloadn (pc := 15) (n := 2) 2 rfl rfl (fm_dec dtX11_noPart 9 rfl) ?_
    refine pv_iconst (pc := 16) (v := 1) (by decide) (fm_dec dtX11_noPart 10 rfl) ?_
    refine pv_invV3 (k := 0) (d' := 0) (pc := 17) pcv_X11_177 (by decide) rfl (Nat.le_of_ble_eq_true rfl) (by decide) (fm_dec dtX11_noPart 11 rfl) ?_
    refine c_badT1 h0 (by decide) ?_
    refine pv_then1 ?_
    exact pv_zreturn (pc := 20) rfl (by first | exact Or.inr rfl | exact Or.inl rfl) (fm_dec dtX11_noPart 12 rfl) (hf h4)
set_option maxRecDepth 20000 in
theorem c_noPart2 {M : fmM} {Q : fmR → fmM → Prop} {p : Int32} (h0 : M.1 0 0 = 0) (ht : 0 ≤ p.toInt → p.toInt ≤ 1 → Q (.inl (some (.int 0))) M) (hf : ¬ (0 ≤ p.toInt ∧ p.toInt ≤ 1) → Q (.inl (some (.int 1))) (fmI (fmI M 0 0 2) 2 1 (M.1 2 1 + 1))) : pvGood Tm 1 qX11_noPart [.ref 0, .int p, .int 2] M Q := by
  refine pvGood_of (Nat.le_of_ble_eq_true rfl) ?_
  show pvEv Tm 1 qX11_noPart 0 [some (.ref 0), some (.int p), some (.int 2)] [] M Q
  refine pv_aloadn (pc := 0) (n := 0) 0 rfl rfl (fm_dec dtX11_noPart 0 rfl) ?_
  refine pv_iloadn (pc := 1) (n := 1) 1 rfl rfl (fm_dec dtX11_noPart 1 rfl) ?_
  refine pv_iconst (pc := 2) (v := 0) (by decide) (fm_dec dtX11_noPart 2 rfl) ?_
  refine pv_iconst (pc := 3) (v := 1) (by decide) (fm_dec dtX11_noPart 3 rfl) ?_
  refine pv_iS3 (d' := 0) (pc := 4) pcs_X11_135 (Nat.le_of_ble_eq_true rfl) (by decide) (fm_dec dtX11_noPart 4 rfl) ?_
  refine c_in (fun h4a h4b => ?_) (fun h4 => ?_)
  · refine pv_then1 ?_
    refine pv_if_ne (pc := 7) 14 (by decide) (fm_dec dtX11_noPart 5 rfl) (fun _ => ?_) (fun hc7 => by exfalso; revert hc7; decide)
    refine pv_iconst (pc := 14) (v := 0) (by decide) (fm_dec dtX11_noPart 8 rfl) ?_
    refine pv_iloadn (pc := 15) (n := 2) 2 rfl rfl (fm_dec dtX11_noPart 9 rfl) ?_
    refine pv_iconst (pc := 16) (v := 1) (by decide) (fm_dec dtX11_noPart 10 rfl) ?_
    refine pv_invV3 (k := 0) (d' := 0) (pc := 17) pcv_X11_177 (by decide) rfl (Nat.le_of_ble_eq_true rfl) (by decide) (fm_dec dtX11_noPart 11 rfl) ?_
    refine c_badF1 h0 ?_
    refine pv_then1 ?_
    exact pv_zreturn (pc := 20) rfl (by first | exact Or.inr rfl | exact Or.inl rfl) (fm_dec dtX11_noPart 12 rfl) (ht h4a h4b)
  · refine pv_then1 ?_
    refine pv_if_ne (pc := 7) 14 (by decide) (fm_dec dtX11_noPart 5 rfl) (fun hc7 => by exfalso; revert hc7; decide) (fun _ => ?_)
    refine pv_iconst (pc := 10) (v := 1) (by decide) (fm_dec dtX11_noPart 6 rfl) ?_
    refine pv_goto (pc := 11) 15 (by decide) (fm_dec dtX11_noPart 7 rfl) ?_
    refine pv_iloadn (pc := 15) (n := 2) 2 rfl rfl (fm_dec dtX11_noPart 9 rfl) ?_
    refine pv_iconst (pc := 16) (v := 1) (by decide) (fm_dec dtX11_noPart 10 rfl) ?_
    refine pv_invV3 (k := 0) (d' := 0) (pc := 17) pcv_X11_177 (by decide) rfl (Nat.le_of_ble_eq_true rfl) (by decide) (fm_dec dtX11_noPart 11 rfl) ?_
    refine c_badT1 h0 (by decide) ?_
    refine pv_then1 ?_
    exact pv_zreturn (pc := 20) rfl (by first | exact Or.inr rfl | exact Or.inl rfl) (fm_dec dtX11_noPart 12 rfl) (hf h4)
set_option maxRecDepth 20000 in
theorem c_hasPiece7 {M : fmM} {Q : fmR → fmM → Prop} {i : Int32} {k : Nat} (hi : i.toInt = k) (hk : k < 8) (ht : ¬ M.1 7 (1 + k) = -1000 → Q (.inl (some (.int 1))) M) (hf : M.1 7 (1 + k) = -1000 → Q (.inl (some (.int 0))) M) : pvGood Tm 0 qX11_hasPiece [.ref 7, .int i] M Q := by
  refine pvGood_of (Nat.le_of_ble_eq_true rfl) ?_
  show pvEv Tm 0 qX11_hasPiece 0 [some (.ref 7), some (.int i)] [] M Q
  refine pv_aloadn (pc := 0) (n := 0) 0 rfl rfl (fm_dec dtX11_hasPiece 0 rfl) ?_
  refine pv_iconst (pc := 1) (v := 1) (by decide) (fm_dec dtX11_hasPiece 1 rfl) ?_
  refine pv_iloadn (pc := 2) (n := 1) 1 rfl rfl (fm_dec dtX11_hasPiece 2 rfl) ?_
  refine pv_iadd (pc := 3) (fm_dec dtX11_hasPiece 3 rfl) ?_
  refine pv_iald (k := 7) (n := 14) (pc := 4) (by decide) rfl rfl (ix_in (ix_1 hi (by omega)) (by omega)) (fm_dec dtX11_hasPiece 4 rfl) ?_
  refine pv_sipush (pc := 5) (v := (-1000)) (by decide) (fm_dec dtX11_hasPiece 5 rfl) ?_
  refine pv_icmp_eq (pc := 8) 15 (by decide) (fm_dec dtX11_hasPiece 6 rfl) (fun hc8 => ?_) (fun hc8 => ?_)
  · refine pv_iconst (pc := 15) (v := 0) (by decide) (fm_dec dtX11_hasPiece 9 rfl) ?_
    exact pv_zreturn (pc := 16) rfl (by first | exact Or.inr rfl | exact Or.inl rfl) (fm_dec dtX11_hasPiece 10 rfl) (by first | exact ht (by have h9 := i32_cl (ix_1 hi (by omega)); simp only [h9] at *; assumption) | exact hf (by have h9 := i32_cl (ix_1 hi (by omega)); simp only [h9] at *; assumption))
  · refine pv_iconst (pc := 11) (v := 1) (by decide) (fm_dec dtX11_hasPiece 7 rfl) ?_
    refine pv_goto (pc := 12) 16 (by decide) (fm_dec dtX11_hasPiece 8 rfl) ?_
    exact pv_zreturn (pc := 16) rfl (by first | exact Or.inr rfl | exact Or.inl rfl) (fm_dec dtX11_hasPiece 10 rfl) (by first | exact ht (by have h9 := i32_cl (ix_1 hi (by omega)); simp only [h9] at *; assumption) | exact hf (by have h9 := i32_cl (ix_1 hi (by omega)); simp only [h9] at *; assumption))
theorem s_renew {M : fmM} {Q : fmR → fmM → Prop} {i : Int32} {k : Nat} (hi : i.toInt = k) (hk : k < 8) (hI : scInv Tm invM M) (hq : ∀ n : Int32, 1 ≤ n.toInt → n.toInt ≤ 9 → Q (.inl (some (.int n))) M) : pvGood Tm 1 qX11_renewHours [.ref 0, .int i] M Q := (hh_X11_renewHours_0 M [(k : Int)] [.ref 0, .int i] (sc_sg hi ⟨by omega, by omega⟩) ⟨⟨0, by simp, rfl⟩, ⟨i, rfl, ⟨(k : Int), rfl, hi.trans (Int.add_zero _).symm⟩⟩, trivial⟩ (fun f hf => by cases hf) hI).imp (fun r M' h => by
  obtain ⟨⟨n, rfl, h3, h4⟩, h1, h2⟩ := sc_o1 h
  rw [scFr_nil h2]
  exact hq n h3 h4)
theorem hr_19 {M : fmM} {k : Nat} (hI : scInv Tm invM M) (hk : k < 8) (hl : (k : Int) < (M.1 4 0).toInt) : 1 ≤ (M.1 (35 + k) 3).toInt ∧ (M.1 (35 + k) 3).toInt ≤ 9 := by
  refine ⟨(hI.2 rfl).2 k hk hl, ?_⟩
  have h := (hI.1 (35 + k) 3 (by rw [(rw_life.2.2.2 k hk).2.2.2.2]; decide)).2
  rcases (show k = 0 ∨ k = 1 ∨ k = 2 ∨ k = 3 ∨ k = 4 ∨ k = 5 ∨ k = 6 ∨ k = 7 by omega) with rfl | rfl | rfl | rfl | rfl | rfl | rfl | rfl <;> exact h
set_option maxRecDepth 20000 in
theorem s_hours7 {M : fmM} {Q : fmR → fmM → Prop} {i : Int32} {k : Nat} (hi : i.toInt = k) (hk : k < 8) (hl : (k : Int) < (M.1 4 0).toInt) (hI : scInv Tm invM M) (hq : ∀ n : Int32, 1 ≤ n.toInt → n.toInt ≤ 9 → Q (.inl (some (.int n))) M) : pvGood Tm 2 qX11_hoursFor [.ref 0, .ref 7, .int i] M Q := by
  refine pvGood_of (Nat.le_of_ble_eq_true rfl) ?_
  show pvEv Tm 2 qX11_hoursFor 0 [some (.ref 0), some (.ref 7), some (.int i)] [] M Q
  refine pv_aloadn (pc := 0) (n := 1) 1 rfl rfl (fm_dec dtX11_hoursFor 0 rfl) ?_
  refine pv_iloadn (pc := 1) (n := 2) 2 rfl rfl (fm_dec dtX11_hoursFor 1 rfl) ?_
  refine pv_iS2 (d' := 0) (pc := 2) pcs_X11_283 (Nat.le_of_ble_eq_true rfl) (by decide) (fm_dec dtX11_hoursFor 2 rfl) ?_
  refine c_hasPiece7 hi hk (fun _ => ?_) (fun _ => ?_)
  · refine pv_then1 ?_
    refine pv_if_eq (pc := 5) 16 (by decide) (fm_dec dtX11_hoursFor 3 rfl) (fun hc5 => by exfalso; revert hc5; decide) (fun _ => ?_)
    refine pv_aloadn (pc := 8) (n := 0) 0 rfl rfl (fm_dec dtX11_hoursFor 4 rfl) ?_
    refine pv_iloadn (pc := 9) (n := 2) 2 rfl rfl (fm_dec dtX11_hoursFor 5 rfl) ?_
    refine pv_invV1 (k := 0) (d' := 1) (pc := 10) pcv_X11_287 (by decide) rfl (Nat.le_of_ble_eq_true rfl) (by decide) (fm_dec dtX11_hoursFor 6 rfl) ?_
    refine s_renew hi hk hI (fun n9 h91 h99 => ?_)
    refine pv_then1 ?_
    refine pv_goto (pc := 13) 24 (by decide) (fm_dec dtX11_hoursFor 7 rfl) ?_
    exact pv_ireturn (pc := 24) rfl (fm_dec dtX11_hoursFor 14 rfl) (hq n9 h91 h99)
  · refine pv_then1 ?_
    refine pv_if_eq (pc := 5) 16 (by decide) (fm_dec dtX11_hoursFor 3 rfl) (fun _ => ?_) (fun hc5 => by exfalso; revert hc5; decide)
    refine pv_aloadn (pc := 16) (n := 0) 0 rfl rfl (fm_dec dtX11_hoursFor 8 rfl) ?_
    refine pv_getR (k := 0) (j := 14) (ci := 11) (pc := 17) 17 rfl (by decide) pfl_X11_31 (by decide) rfl (by decide) (fm_dec dtX11_hoursFor 9 rfl) ?_
    refine pv_iloadn (pc := 20) (n := 2) 2 rfl rfl (fm_dec dtX11_hoursFor 10 rfl) ?_
    refine pv_aald (k := 17) (n := 8) (r := (35 + k)) (pc := 21) (by decide) (Or.inr (Or.inr rfl)) rfl (rw_life.inb hi hk) (rw_life.at hi hk) (rw_life.2.2.2 _ hk).2.1 (fm_dec dtX11_hoursFor 11 rfl) ?_
    refine pv_iconst (pc := 22) (v := 3) (by decide) (fm_dec dtX11_hoursFor 12 rfl) ?_
    refine pv_iald (k := (35 + k)) (n := 6) (pc := 23) (rw_life.2.2.2 _ hk).2.2.1 (rw_life.2.2.2 _ hk).2.2.2.1 (rw_life.2.2.2 _ hk).2.2.2.2 (fm_inl (by decide)) (fm_dec dtX11_hoursFor 13 rfl) ?_
    exact pv_ireturn (pc := 24) rfl (fm_dec dtX11_hoursFor 14 rfl) (hq _ (hr_19 hI hk hl).1 (hr_19 hI hk hl).2)
theorem s_saved7 {M : fmM} {Q : fmR → fmM → Prop} {i : Int32} {k : Nat} (hi : i.toInt = k) (hk : k < 8) (hI : scInv Tm invM M) (hq : ∀ (n : Int32) (M' : fmM), scInv Tm invM M' → scFr [(5, 0, 160), (6, 0, 5)] M M' → Q (.inl (some (.int n))) M') : pvGood Tm 8 qX11_saved [.ref 0, .ref 7, .int i] M Q := (hh_X11_saved_4 M [(k : Int)] [.ref 0, .ref 7, .int i] (sc_sg hi ⟨by omega, by omega⟩) ⟨⟨0, by simp, rfl⟩, ⟨7, by simp, rfl⟩, ⟨i, rfl, ⟨(k : Int), rfl, hi.trans (Int.add_zero _).symm⟩⟩, trivial⟩ (fun f hf => by cases hf) hI).imp (fun r M' h => by
  obtain ⟨⟨n, rfl, -, -⟩, h1, h2⟩ := sc_o1 h
  exact hq n M' h1 h2)
theorem low_nz {n : Int32} (h1 : 1 ≤ n.toInt) (h9 : n.toInt ≤ 9) : ¬ (4096 * n.toInt64 : Int64) = 0 := by
  intro e
  have e1 := congrArg Int64.toInt e
  rw [Int64.toInt_mul, Int32.toInt_toInt64, show (4096 : Int64).toInt = 4096 by decide, show (0 : Int64).toInt = 0 by decide, Int.bmod_eq_of_le (by omega) (by omega)] at e1
  omega
set_option maxRecDepth 20000 in
theorem t_saves {M : fmM} {Q : fmR → fmM → Prop} {i p : Int32} (hI : scInv Tm invM M) (hq : ∀ (r : fmR) (M' : fmM), tJ r → scInv Tm invM M' → Q r M') : pvGood Tm 9 qX11_saves [.ref 0, .int i, .int p] M Q := by
  refine pvGood_of (Nat.le_of_ble_eq_true rfl) ?_
  show pvEv Tm 9 qX11_saves 0 [some (.ref 0), some (.int i), some (.int p)] [] M Q
  obtain ⟨l, h4, hl⟩ := told8 hI
  have hI0 := hI.p00 (x := 0) (Or.inl rfl)
  refine pv_aloadn (pc := 0) (n := 0) 0 rfl rfl (fm_dec dtX11_saves 0 rfl) ?_
  refine pv_iconst (pc := 1) (v := 0) (by decide) (fm_dec dtX11_saves 1 rfl) ?_
  refine pv_putI (k := 0) (j := 0) (ci := 11) (pc := 2) pfl_X11_101 (by decide) rfl (by decide) (fm_dec dtX11_saves 2 rfl) ?_
  refine pv_aloadn (pc := 5) (n := 0) 0 rfl rfl (fm_dec dtX11_saves 3 rfl) ?_
  refine pv_aloadn (pc := 6) (n := 0) 0 rfl rfl (fm_dec dtX11_saves 4 rfl) ?_
  refine pv_iloadn (pc := 7) (n := 1) 1 rfl rfl (fm_dec dtX11_saves 5 rfl) ?_
  refine pv_invV1 (k := 0) (d' := 1) (pc := 8) pcv_X11_331 (by decide) rfl (Nat.le_of_ble_eq_true rfl) (by decide) (fm_dec dtX11_saves 6 rfl) ?_
  refine c_isLife (M := fmI M 0 0 0) h4 hl (fun k hk hkl => ?_) (fun hno => ?_)
  · refine pv_then1 ?_
    refine pv_if_ne (pc := 11) 18 (by decide) (fm_dec dtX11_saves 7 rfl) (fun _ => ?_) (fun hc11 => by exfalso; revert hc11; decide)
    refine pv_iconst (pc := 18) (v := 0) (by decide) (fm_dec dtX11_saves 10 rfl) ?_
    refine pv_iconst (pc := 19) (v := 1) (by decide) (fm_dec dtX11_saves 11 rfl) ?_
    refine pv_iconst (pc := 20) (v := 0) (by decide) (fm_dec dtX11_saves 12 rfl) ?_
    refine pv_invV3 (k := 0) (d' := 0) (pc := 21) pcv_X11_177 (by decide) rfl (Nat.le_of_ble_eq_true rfl) (by decide) (fm_dec dtX11_saves 13 rfl) ?_
    refine c_badF0 rfl ?_
    refine pv_then1 ?_
    refine pv_if_ne (pc := 24) 36 (by decide) (fm_dec dtX11_saves 14 rfl) (fun hc24 => by exfalso; revert hc24; decide) (fun _ => ?_)
    refine pv_aloadn (pc := 27) (n := 0) 0 rfl rfl (fm_dec dtX11_saves 15 rfl) ?_
    refine pv_iloadn (pc := 28) (n := 2) 2 rfl rfl (fm_dec dtX11_saves 16 rfl) ?_
    refine pv_iconst (pc := 29) (v := 2) (by decide) (fm_dec dtX11_saves 17 rfl) ?_
    refine pv_invV2 (k := 0) (d' := 1) (pc := 30) pcv_X11_340 (by decide) rfl (Nat.le_of_ble_eq_true rfl) (by decide) (fm_dec dtX11_saves 18 rfl) ?_
    refine c_noPart2 rfl (fun _ _ => ?_) (fun _ => ?_)
    · refine pv_then1 ?_
      refine pv_if_eq (pc := 33) 38 (by decide) (fm_dec dtX11_saves 19 rfl) (fun _ => ?_) (fun hc33 => by exfalso; revert hc33; decide)
      refine pv_aloadn (pc := 38) (n := 0) 0 rfl rfl (fm_dec dtX11_saves 22 rfl) ?_
      refine pv_aloadn (pc := 39) (n := 0) 0 rfl rfl (fm_dec dtX11_saves 23 rfl) ?_
      refine pv_getR (k := 0) (j := 27) (ci := 11) (pc := 40) 7 rfl (by decide) pfl_X11_61 (by decide) rfl (by decide) (fm_dec dtX11_saves 24 rfl) ?_
      refine pv_iloadn (pc := 43) (n := 1) 1 rfl rfl (fm_dec dtX11_saves 25 rfl) ?_
      refine pv_invV2 (k := 0) (d' := 8) (pc := 44) pcv_X11_355 (by decide) rfl (Nat.le_of_ble_eq_true rfl) (by decide) (fm_dec dtX11_saves 26 rfl) ?_
      refine s_saved7 hk (by omega) hI0 (fun n44 M44 hI44 f44 => ?_)
      refine pv_then1 ?_
      refine pv_i2l (pc := 47) (fm_dec dtX11_saves 27 rfl) ?_
      refine pv_ldc2 (pc := 48) pkc_X11_353 (fm_dec dtX11_saves 28 rfl) ?_
      refine pv_aloadn (pc := 51) (n := 0) 0 rfl rfl (fm_dec dtX11_saves 29 rfl) ?_
      refine pv_aloadn (pc := 52) (n := 0) 0 rfl rfl (fm_dec dtX11_saves 30 rfl) ?_
      refine pv_getR (k := 0) (j := 27) (ci := 11) (pc := 53) 7 rfl (by decide) pfl_X11_61 (by decide) rfl (by decide) (fm_dec dtX11_saves 31 rfl) ?_
      refine pv_iloadn (pc := 56) (n := 1) 1 rfl rfl (fm_dec dtX11_saves 32 rfl) ?_
      refine pv_invV2 (k := 0) (d' := 2) (pc := 57) pcv_X11_290 (by decide) rfl (Nat.le_of_ble_eq_true rfl) (by decide) (fm_dec dtX11_saves 33 rfl) ?_
      refine s_hours7 hk (by omega) (by have h9 : M44.1 4 0 = M.1 4 0 := (f44 4 0 rfl).1; rw [h9, h4]; omega) hI44 (fun n57 h571 h579 => ?_)
      refine pv_then1 ?_
      refine pv_i2l (pc := 60) (fm_dec dtX11_saves 34 rfl) ?_
      refine pv_lmul (pc := 61) (fm_dec dtX11_saves 35 rfl) ?_
      refine pv_iloadn (pc := 62) (n := 2) 2 rfl rfl (fm_dec dtX11_saves 36 rfl) ?_
      refine pv_iS3 (d' := 0) (pc := 63) pcs_X11_345 (Nat.le_of_ble_eq_true rfl) (by decide) (fm_dec dtX11_saves 37 rfl) ?_
      refine c_partOf (low_nz h571 h579) (fun r63 => ?_)
      refine pv_then1 ?_
      exact pv_lreturn (pc := 66) rfl (fm_dec dtX11_saves 38 rfl) (hq _ _ ⟨_, rfl⟩ hI44)
    · refine pv_then1 ?_
      refine pv_if_eq (pc := 33) 38 (by decide) (fm_dec dtX11_saves 19 rfl) (fun hc33 => by exfalso; revert hc33; decide) (fun _ => ?_)
      refine pv_lconst (pc := 36) (v := 0) (by decide) (fm_dec dtX11_saves 20 rfl) ?_
      exact pv_lreturn (pc := 37) rfl (fm_dec dtX11_saves 21 rfl) (hq _ _ ⟨_, rfl⟩ (by first | exact (hI0.p00 (Or.inr (Or.inl rfl))).p2 | exact (hI0.p00 (Or.inr (Or.inr rfl))).p2))
  · refine pv_then1 ?_
    refine pv_if_ne (pc := 11) 18 (by decide) (fm_dec dtX11_saves 7 rfl) (fun hc11 => by exfalso; revert hc11; decide) (fun _ => ?_)
    refine pv_iconst (pc := 14) (v := 1) (by decide) (fm_dec dtX11_saves 8 rfl) ?_
    refine pv_goto (pc := 15) 19 (by decide) (fm_dec dtX11_saves 9 rfl) ?_
    refine pv_iconst (pc := 19) (v := 1) (by decide) (fm_dec dtX11_saves 11 rfl) ?_
    refine pv_iconst (pc := 20) (v := 0) (by decide) (fm_dec dtX11_saves 12 rfl) ?_
    refine pv_invV3 (k := 0) (d' := 0) (pc := 21) pcv_X11_177 (by decide) rfl (Nat.le_of_ble_eq_true rfl) (by decide) (fm_dec dtX11_saves 13 rfl) ?_
    refine c_badT0 rfl (by decide) ?_
    refine pv_then1 ?_
    refine pv_if_ne (pc := 24) 36 (by decide) (fm_dec dtX11_saves 14 rfl) (fun _ => ?_) (fun hc24 => by exfalso; revert hc24; decide)
    refine pv_lconst (pc := 36) (v := 0) (by decide) (fm_dec dtX11_saves 20 rfl) ?_
    exact pv_lreturn (pc := 37) rfl (fm_dec dtX11_saves 21 rfl) (hq _ _ ⟨_, rfl⟩ (by first | exact (hI0.p00 (Or.inr (Or.inl rfl))).p2 | exact (hI0.p00 (Or.inr (Or.inr rfl))).p2))
set_option maxRecDepth 20000 in
theorem c_ones {M : fmM} {Q : fmR → fmM → Prop} {b : Int32} (hq : ∀ r : Int32, Q (.inl (some (.int r))) M) : pvGood Tm 0 qX11_ones [.int b] M Q := by
  refine pvGood_of (Nat.le_of_ble_eq_true rfl) ?_
  show pvEv Tm 0 qX11_ones 0 [some (.int b), none, none] [] M Q
  refine pv_iconst (pc := 0) (v := 0) (by decide) (fm_dec dtX11_ones 0 rfl) ?_
  refine pv_istoren (pc := 1) (n := 1) 1 rfl (by decide) rfl (fm_dec dtX11_ones 1 rfl) ?_
  dsimp only [List.set_cons_zero, List.set_cons_succ]
  refine pv_iconst (pc := 2) (v := 0) (by decide) (fm_dec dtX11_ones 2 rfl) ?_
  refine pv_istoren (pc := 3) (n := 2) 2 rfl (by decide) rfl (fm_dec dtX11_ones 3 rfl) ?_
  dsimp only [List.set_cons_zero, List.set_cons_succ]
  refine pv_iloadn (pc := 4) (n := 2) 2 rfl rfl (fm_dec dtX11_ones 4 rfl) ?_
  refine pv_bipush (pc := 5) (v := 8) (by decide) (fm_dec dtX11_ones 5 rfl) ?_
  refine pv_icmp_ge (pc := 7) 24 (by decide) (fm_dec dtX11_ones 6 rfl) (fun hc7 => by exfalso; revert hc7; decide) (fun _ => ?_)
  refine pv_iloadn (pc := 10) (n := 1) 1 rfl rfl (fm_dec dtX11_ones 7 rfl) ?_
  refine pv_iloadn (pc := 11) (n := 0) 0 rfl rfl (fm_dec dtX11_ones 8 rfl) ?_
  refine pv_iloadn (pc := 12) (n := 2) 2 rfl rfl (fm_dec dtX11_ones 9 rfl) ?_
  refine pv_ishr (pc := 13) (fm_dec dtX11_ones 10 rfl) ?_
  refine pv_iconst (pc := 14) (v := 1) (by decide) (fm_dec dtX11_ones 11 rfl) ?_
  refine pv_iand (pc := 15) (fm_dec dtX11_ones 12 rfl) ?_
  refine pv_iadd (pc := 16) (fm_dec dtX11_ones 13 rfl) ?_
  refine pv_istoren (pc := 17) (n := 1) 1 rfl (by decide) rfl (fm_dec dtX11_ones 14 rfl) ?_
  dsimp only [List.set_cons_zero, List.set_cons_succ]
  refine pv_iincc (pc := 18) 2 1 (by decide) rfl (by decide) rfl (fm_dec dtX11_ones 15 rfl) ?_
  dsimp only [List.set_cons_zero, List.set_cons_succ]
  rw [show (0 : Int32) + 1 = 1 by decide]
  refine pv_goto (pc := 21) 4 (by decide) (fm_dec dtX11_ones 16 rfl) ?_
  refine pv_iloadn (pc := 4) (n := 2) 2 rfl rfl (fm_dec dtX11_ones 4 rfl) ?_
  refine pv_bipush (pc := 5) (v := 8) (by decide) (fm_dec dtX11_ones 5 rfl) ?_
  refine pv_icmp_ge (pc := 7) 24 (by decide) (fm_dec dtX11_ones 6 rfl) (fun hc7 => by exfalso; revert hc7; decide) (fun _ => ?_)
  refine pv_iloadn (pc := 10) (n := 1) 1 rfl rfl (fm_dec dtX11_ones 7 rfl) ?_
  refine pv_iloadn (pc := 11) (n := 0) 0 rfl rfl (fm_dec dtX11_ones 8 rfl) ?_
  refine pv_iloadn (pc := 12) (n := 2) 2 rfl rfl (fm_dec dtX11_ones 9 rfl) ?_
  refine pv_ishr (pc := 13) (fm_dec dtX11_ones 10 rfl) ?_
  refine pv_iconst (pc := 14) (v := 1) (by decide) (fm_dec dtX11_ones 11 rfl) ?_
  refine pv_iand (pc := 15) (fm_dec dtX11_ones 12 rfl) ?_
  refine pv_iadd (pc := 16) (fm_dec dtX11_ones 13 rfl) ?_
  refine pv_istoren (pc := 17) (n := 1) 1 rfl (by decide) rfl (fm_dec dtX11_ones 14 rfl) ?_
  dsimp only [List.set_cons_zero, List.set_cons_succ]
  refine pv_iincc (pc := 18) 2 1 (by decide) rfl (by decide) rfl (fm_dec dtX11_ones 15 rfl) ?_
  dsimp only [List.set_cons_zero, List.set_cons_succ]
  rw [show (1 : Int32) + 1 = 2 by decide]
  refine pv_goto (pc := 21) 4 (by decide) (fm_dec dtX11_ones 16 rfl) ?_
  refine pv_iloadn (pc := 4) (n := 2) 2 rfl rfl (fm_dec dtX11_ones 4 rfl) ?_
  refine pv_bipush (pc := 5) (v := 8) (by decide) (fm_dec dtX11_ones 5 rfl) ?_
  refine pv_icmp_ge (pc := 7) 24 (by decide) (fm_dec dtX11_ones 6 rfl) (fun hc7 => by exfalso; revert hc7; decide) (fun _ => ?_)
  refine pv_iloadn (pc := 10) (n := 1) 1 rfl rfl (fm_dec dtX11_ones 7 rfl) ?_
  refine pv_iloadn (pc := 11) (n := 0) 0 rfl rfl (fm_dec dtX11_ones 8 rfl) ?_
  refine pv_iloadn (pc := 12) (n := 2) 2 rfl rfl (fm_dec dtX11_ones 9 rfl) ?_
  refine pv_ishr (pc := 13) (fm_dec dtX11_ones 10 rfl) ?_
  refine pv_iconst (pc := 14) (v := 1) (by decide) (fm_dec dtX11_ones 11 rfl) ?_
  refine pv_iand (pc := 15) (fm_dec dtX11_ones 12 rfl) ?_
  refine pv_iadd (pc := 16) (fm_dec dtX11_ones 13 rfl) ?_
  refine pv_istoren (pc := 17) (n := 1) 1 rfl (by decide) rfl (fm_dec dtX11_ones 14 rfl) ?_
  dsimp only [List.set_cons_zero, List.set_cons_succ]
  refine pv_iincc (pc := 18) 2 1 (by decide) rfl (by decide) rfl (fm_dec dtX11_ones 15 rfl) ?_
  dsimp only [List.set_cons_zero, List.set_cons_succ]
  rw [show (2 : Int32) + 1 = 3 by decide]
  refine pv_goto (pc := 21) 4 (by decide) (fm_dec dtX11_ones 16 rfl) ?_
  refine pv_iloadn (pc := 4) (n := 2) 2 rfl rfl (fm_dec dtX11_ones 4 rfl) ?_
  refine pv_bipush (pc := 5) (v := 8) (by decide) (fm_dec dtX11_ones 5 rfl) ?_
  refine pv_icmp_ge (pc := 7) 24 (by decide) (fm_dec dtX11_ones 6 rfl) (fun hc7 => by exfalso; revert hc7; decide) (fun _ => ?_)
  refine pv_iloadn (pc := 10) (n := 1) 1 rfl rfl (fm_dec dtX11_ones 7 rfl) ?_
  refine pv_iloadn (pc := 11) (n := 0) 0 rfl rfl (fm_dec dtX11_ones 8 rfl) ?_
  refine pv_iloadn (pc := 12) (n := 2) 2 rfl rfl (fm_dec dtX11_ones 9 rfl) ?_
  refine pv_ishr (pc := 13) (fm_dec dtX11_ones 10 rfl) ?_
  refine pv_iconst (pc := 14) (v := 1) (by decide) (fm_dec dtX11_ones 11 rfl) ?_
  refine pv_iand (pc := 15) (fm_dec dtX11_ones 12 rfl) ?_
  refine pv_iadd (pc := 16) (fm_dec dtX11_ones 13 rfl) ?_
  refine pv_istoren (pc := 17) (n := 1) 1 rfl (by decide) rfl (fm_dec dtX11_ones 14 rfl) ?_
  dsimp only [List.set_cons_zero, List.set_cons_succ]
  refine pv_iincc (pc := 18) 2 1 (by decide) rfl (by decide) rfl (fm_dec dtX11_ones 15 rfl) ?_
  dsimp only [List.set_cons_zero, List.set_cons_succ]
  rw [show (3 : Int32) + 1 = 4 by decide]
  refine pv_goto (pc := 21) 4 (by decide) (fm_dec dtX11_ones 16 rfl) ?_
  refine pv_iloadn (pc := 4) (n := 2) 2 rfl rfl (fm_dec dtX11_ones 4 rfl) ?_
  refine pv_bipush (pc := 5) (v := 8) (by decide) (fm_dec dtX11_ones 5 rfl) ?_
  refine pv_icmp_ge (pc := 7) 24 (by decide) (fm_dec dtX11_ones 6 rfl) (fun hc7 => by exfalso; revert hc7; decide) (fun _ => ?_)
  refine pv_iloadn (pc := 10) (n := 1) 1 rfl rfl (fm_dec dtX11_ones 7 rfl) ?_
  refine pv_iloadn (pc := 11) (n := 0) 0 rfl rfl (fm_dec dtX11_ones 8 rfl) ?_
  refine pv_iloadn (pc := 12) (n := 2) 2 rfl rfl (fm_dec dtX11_ones 9 rfl) ?_
  refine pv_ishr (pc := 13) (fm_dec dtX11_ones 10 rfl) ?_
  refine pv_iconst (pc := 14) (v := 1) (by decide) (fm_dec dtX11_ones 11 rfl) ?_
  refine pv_iand (pc := 15) (fm_dec dtX11_ones 12 rfl) ?_
  refine pv_iadd (pc := 16) (fm_dec dtX11_ones 13 rfl) ?_
  refine pv_istoren (pc := 17) (n := 1) 1 rfl (by decide) rfl (fm_dec dtX11_ones 14 rfl) ?_
  dsimp only [List.set_cons_zero, List.set_cons_succ]
  refine pv_iincc (pc := 18) 2 1 (by decide) rfl (by decide) rfl (fm_dec dtX11_ones 15 rfl) ?_
  dsimp only [List.set_cons_zero, List.set_cons_succ]
  rw [show (4 : Int32) + 1 = 5 by decide]
  refine pv_goto (pc := 21) 4 (by decide) (fm_dec dtX11_ones 16 rfl) ?_
  refine pv_iloadn (pc := 4) (n := 2) 2 rfl rfl (fm_dec dtX11_ones 4 rfl) ?_
  refine pv_bipush (pc := 5) (v := 8) (by decide) (fm_dec dtX11_ones 5 rfl) ?_
  refine pv_icmp_ge (pc := 7) 24 (by decide) (fm_dec dtX11_ones 6 rfl) (fun hc7 => by exfalso; revert hc7; decide) (fun _ => ?_)
  refine pv_iloadn (pc := 10) (n := 1) 1 rfl rfl (fm_dec dtX11_ones 7 rfl) ?_
  refine pv_iloadn (pc := 11) (n := 0) 0 rfl rfl (fm_dec dtX11_ones 8 rfl) ?_
  refine pv_iloadn (pc := 12) (n := 2) 2 rfl rfl (fm_dec dtX11_ones 9 rfl) ?_
  refine pv_ishr (pc := 13) (fm_dec dtX11_ones 10 rfl) ?_
  refine pv_iconst (pc := 14) (v := 1) (by decide) (fm_dec dtX11_ones 11 rfl) ?_
  refine pv_iand (pc := 15) (fm_dec dtX11_ones 12 rfl) ?_
  refine pv_iadd (pc := 16) (fm_dec dtX11_ones 13 rfl) ?_
  refine pv_istoren (pc := 17) (n := 1) 1 rfl (by decide) rfl (fm_dec dtX11_ones 14 rfl) ?_
  dsimp only [List.set_cons_zero, List.set_cons_succ]
  refine pv_iincc (pc := 18) 2 1 (by decide) rfl (by decide) rfl (fm_dec dtX11_ones 15 rfl) ?_
  dsimp only [List.set_cons_zero, List.set_cons_succ]
  rw [show (5 : Int32) + 1 = 6 by decide]
  refine pv_goto (pc := 21) 4 (by decide) (fm_dec dtX11_ones 16 rfl) ?_
  refine pv_iloadn (pc := 4) (n := 2) 2 rfl rfl (fm_dec dtX11_ones 4 rfl) ?_
  refine pv_bipush (pc := 5) (v := 8) (by decide) (fm_dec dtX11_ones 5 rfl) ?_
  refine pv_icmp_ge (pc := 7) 24 (by decide) (fm_dec dtX11_ones 6 rfl) (fun hc7 => by exfalso; revert hc7; decide) (fun _ => ?_)
  refine pv_iloadn (pc := 10) (n := 1) 1 rfl rfl (fm_dec dtX11_ones 7 rfl) ?_
  refine pv_iloadn (pc := 11) (n := 0) 0 rfl rfl (fm_dec dtX11_ones 8 rfl) ?_
  refine pv_iloadn (pc := 12) (n := 2) 2 rfl rfl (fm_dec dtX11_ones 9 rfl) ?_
  refine pv_ishr (pc := 13) (fm_dec dtX11_ones 10 rfl) ?_
  refine pv_iconst (pc := 14) (v := 1) (by decide) (fm_dec dtX11_ones 11 rfl) ?_
  refine pv_iand (pc := 15) (fm_dec dtX11_ones 12 rfl) ?_
  refine pv_iadd (pc := 16) (fm_dec dtX11_ones 13 rfl) ?_
  refine pv_istoren (pc := 17) (n := 1) 1 rfl (by decide) rfl (fm_dec dtX11_ones 14 rfl) ?_
  dsimp only [List.set_cons_zero, List.set_cons_succ]
  refine pv_iincc (pc := 18) 2 1 (by decide) rfl (by decide) rfl (fm_dec dtX11_ones 15 rfl) ?_
  dsimp only [List.set_cons_zero, List.set_cons_succ]
  rw [show (6 : Int32) + 1 = 7 by decide]
  refine pv_goto (pc := 21) 4 (by decide) (fm_dec dtX11_ones 16 rfl) ?_
  refine pv_iloadn (pc := 4) (n := 2) 2 rfl rfl (fm_dec dtX11_ones 4 rfl) ?_
  refine pv_bipush (pc := 5) (v := 8) (by decide) (fm_dec dtX11_ones 5 rfl) ?_
  refine pv_icmp_ge (pc := 7) 24 (by decide) (fm_dec dtX11_ones 6 rfl) (fun hc7 => by exfalso; revert hc7; decide) (fun _ => ?_)
  refine pv_iloadn (pc := 10) (n := 1) 1 rfl rfl (fm_dec dtX11_ones 7 rfl) ?_
  refine pv_iloadn (pc := 11) (n := 0) 0 rfl rfl (fm_dec dtX11_ones 8 rfl) ?_
  refine pv_iloadn (pc := 12) (n := 2) 2 rfl rfl (fm_dec dtX11_ones 9 rfl) ?_
  refine pv_ishr (pc := 13) (fm_dec dtX11_ones 10 rfl) ?_
  refine pv_iconst (pc := 14) (v := 1) (by decide) (fm_dec dtX11_ones 11 rfl) ?_
  refine pv_iand (pc := 15) (fm_dec dtX11_ones 12 rfl) ?_
  refine pv_iadd (pc := 16) (fm_dec dtX11_ones 13 rfl) ?_
  refine pv_istoren (pc := 17) (n := 1) 1 rfl (by decide) rfl (fm_dec dtX11_ones 14 rfl) ?_
  dsimp only [List.set_cons_zero, List.set_cons_succ]
  refine pv_iincc (pc := 18) 2 1 (by decide) rfl (by decide) rfl (fm_dec dtX11_ones 15 rfl) ?_
  dsimp only [List.set_cons_zero, List.set_cons_succ]
  rw [show (7 : Int32) + 1 = 8 by decide]
  refine pv_goto (pc := 21) 4 (by decide) (fm_dec dtX11_ones 16 rfl) ?_
  refine pv_iloadn (pc := 4) (n := 2) 2 rfl rfl (fm_dec dtX11_ones 4 rfl) ?_
  refine pv_bipush (pc := 5) (v := 8) (by decide) (fm_dec dtX11_ones 5 rfl) ?_
  refine pv_icmp_ge (pc := 7) 24 (by decide) (fm_dec dtX11_ones 6 rfl) (fun _ => ?_) (fun hc7 => by exfalso; revert hc7; decide)
  refine pv_iloadn (pc := 24) (n := 1) 1 rfl rfl (fm_dec dtX11_ones 17 rfl) ?_
  exact pv_ireturn (pc := 25) rfl (fm_dec dtX11_ones 18 rfl) (hq _)
set_option maxRecDepth 20000 in
theorem ch_loop {Q : fmR → fmM → Prop} {M : fmM} {i what : Int32} (hI : scInv Tm invM M) (hq : ∀ n : Int32, Q (.inl (some (.int n))) M) : ∀ (m : Nat) (been last : Int32) (w kl : Nat), been = nI w → w < 256 → 8 - pop8 w = m → last.toInt = kl → kl < 8 → pvEv Tm 2 qX11_chain 59 [some (.ref 0), some (.int i), some (.int what), some (.int been), some (.int last)] [] M Q := by
  intro m
  induction m using Nat.strongRecOn with
  | _ m ih =>
    intro been last w kl hbe hw hm hkl hkl8
    refine pv_aloadn (pc := 59) (n := 0) 0 rfl rfl (fm_dec dtX11_chain 36 rfl) ?_
    refine pv_getR (k := 0) (j := 14) (ci := 11) (pc := 60) 17 rfl (by decide) pfl_X11_31 (by decide) rfl (by decide) (fm_dec dtX11_chain 37 rfl) ?_
    refine pv_iload (pc := 63) (i := 4) rfl (fm_dec dtX11_chain 38 rfl) ?_
    refine pv_aald (k := 17) (n := 8) (r := (35 + kl)) (pc := 65) (by decide) (Or.inr (Or.inr rfl)) rfl (rw_life.inb hkl hkl8) (rw_life.at hkl hkl8) (rw_life.2.2.2 _ hkl8).2.1 (fm_dec dtX11_chain 39 rfl) ?_
    refine pv_iconst (pc := 66) (v := 5) (by decide) (fm_dec dtX11_chain 40 rfl) ?_
    refine pv_iald (k := (35 + kl)) (n := 6) (pc := 67) (rw_life.2.2.2 _ hkl8).2.2.1 (rw_life.2.2.2 _ hkl8).2.2.2.1 (rw_life.2.2.2 _ hkl8).2.2.2.2 (fm_inl (by decide)) (fm_dec dtX11_chain 41 rfl) ?_
    refine pv_iconst (pc := 68) (v := (-1)) (by decide) (fm_dec dtX11_chain 42 rfl) ?_
    refine pv_icmp_eq (pc := 69) 109 (by decide) (fm_dec dtX11_chain 43 rfl) (fun hc69 => ?_) (fun hc69 => ?_)
    · refine pv_iloadn (pc := 109) (n := 2) 2 rfl rfl (fm_dec dtX11_chain 67 rfl) ?_
      refine pv_if_ne (pc := 110) 120 (by decide) (fm_dec dtX11_chain 68 rfl) (fun hc110 => ?_) (fun hc110 => ?_)
      · refine pv_iload (pc := 120) (i := 4) rfl (fm_dec dtX11_chain 72 rfl) ?_
        exact pv_ireturn (pc := 122) rfl (fm_dec dtX11_chain 73 rfl) (hq _)
      · refine pv_iloadn (pc := 113) (n := 3) 3 rfl rfl (fm_dec dtX11_chain 69 rfl) ?_
        refine pv_iS1 (d' := 0) (pc := 114) pcs_X11_416 (Nat.le_of_ble_eq_true rfl) (by decide) (fm_dec dtX11_chain 70 rfl) ?_
        refine c_ones (fun r114 => ?_)
        refine pv_then1 ?_
        refine pv_goto (pc := 117) 122 (by decide) (fm_dec dtX11_chain 71 rfl) ?_
        exact pv_ireturn (pc := 122) rfl (fm_dec dtX11_chain 73 rfl) (hq _)
    · obtain ⟨v, hv8, hve, hvi⟩ := by_k (x := M.1 (35 + kl) (Int32.toNatClampNeg 5)) rfl hI hkl8 hc69
      refine pv_iloadn (pc := 72) (n := 3) 3 rfl rfl (fm_dec dtX11_chain 44 rfl) ?_
      refine pv_aloadn (pc := 73) (n := 0) 0 rfl rfl (fm_dec dtX11_chain 45 rfl) ?_
      refine pv_getR (k := 0) (j := 14) (ci := 11) (pc := 74) 17 rfl (by decide) pfl_X11_31 (by decide) rfl (by decide) (fm_dec dtX11_chain 46 rfl) ?_
      refine pv_iload (pc := 77) (i := 4) rfl (fm_dec dtX11_chain 47 rfl) ?_
      refine pv_aald (k := 17) (n := 8) (r := (35 + kl)) (pc := 79) (by decide) (Or.inr (Or.inr rfl)) rfl (rw_life.inb hkl hkl8) (rw_life.at hkl hkl8) (rw_life.2.2.2 _ hkl8).2.1 (fm_dec dtX11_chain 48 rfl) ?_
      refine pv_iconst (pc := 80) (v := 5) (by decide) (fm_dec dtX11_chain 49 rfl) ?_
      refine pv_iald (k := (35 + kl)) (n := 6) (pc := 81) (rw_life.2.2.2 _ hkl8).2.2.1 (rw_life.2.2.2 _ hkl8).2.2.2.1 (rw_life.2.2.2 _ hkl8).2.2.2.2 (fm_inl (by decide)) (fm_dec dtX11_chain 50 rfl) ?_
      refine pv_iS2 (d' := 0) (pc := 82) pcs_X11_256 (Nat.le_of_ble_eq_true rfl) (by decide) (fm_dec dtX11_chain 51 rfl) ?_
      refine c_has (fun h82 => ?_) (fun h82 => ?_)
      · refine pv_then1 ?_
        refine pv_if_ne (pc := 85) 109 (by decide) (fm_dec dtX11_chain 52 rfl) (fun _ => ?_) (fun hc85 => by exfalso; revert hc85; decide)
        refine pv_iloadn (pc := 109) (n := 2) 2 rfl rfl (fm_dec dtX11_chain 67 rfl) ?_
        refine pv_if_ne (pc := 110) 120 (by decide) (fm_dec dtX11_chain 68 rfl) (fun hc110 => ?_) (fun hc110 => ?_)
        · refine pv_iload (pc := 120) (i := 4) rfl (fm_dec dtX11_chain 72 rfl) ?_
          exact pv_ireturn (pc := 122) rfl (fm_dec dtX11_chain 73 rfl) (hq _)
        · refine pv_iloadn (pc := 113) (n := 3) 3 rfl rfl (fm_dec dtX11_chain 69 rfl) ?_
          refine pv_iS1 (d' := 0) (pc := 114) pcs_X11_416 (Nat.le_of_ble_eq_true rfl) (by decide) (fm_dec dtX11_chain 70 rfl) ?_
          refine c_ones (fun r114 => ?_)
          refine pv_then1 ?_
          refine pv_goto (pc := 117) 122 (by decide) (fm_dec dtX11_chain 71 rfl) ?_
          exact pv_ireturn (pc := 122) rfl (fm_dec dtX11_chain 73 rfl) (hq _)
      · refine pv_then1 ?_
        refine pv_if_ne (pc := 85) 109 (by decide) (fm_dec dtX11_chain 52 rfl) (fun hc85 => by exfalso; revert hc85; decide) (fun _ => ?_)
        refine pv_aloadn (pc := 88) (n := 0) 0 rfl rfl (fm_dec dtX11_chain 53 rfl) ?_
        refine pv_getR (k := 0) (j := 14) (ci := 11) (pc := 89) 17 rfl (by decide) pfl_X11_31 (by decide) rfl (by decide) (fm_dec dtX11_chain 54 rfl) ?_
        refine pv_iload (pc := 92) (i := 4) rfl (fm_dec dtX11_chain 55 rfl) ?_
        refine pv_aald (k := 17) (n := 8) (r := (35 + kl)) (pc := 94) (by decide) (Or.inr (Or.inr rfl)) rfl (rw_life.inb hkl hkl8) (rw_life.at hkl hkl8) (rw_life.2.2.2 _ hkl8).2.1 (fm_dec dtX11_chain 56 rfl) ?_
        refine pv_iconst (pc := 95) (v := 5) (by decide) (fm_dec dtX11_chain 57 rfl) ?_
        refine pv_iald (k := (35 + kl)) (n := 6) (pc := 96) (rw_life.2.2.2 _ hkl8).2.2.1 (rw_life.2.2.2 _ hkl8).2.2.2.1 (rw_life.2.2.2 _ hkl8).2.2.2.2 (fm_inl (by decide)) (fm_dec dtX11_chain 58 rfl) ?_
        refine pv_istore (pc := 97) (i := 4) (by decide) rfl (fm_dec dtX11_chain 59 rfl) ?_
        dsimp only [List.set_cons_zero, List.set_cons_succ]
        refine pv_iloadn (pc := 99) (n := 3) 3 rfl rfl (fm_dec dtX11_chain 60 rfl) ?_
        refine pv_iconst (pc := 100) (v := 1) (by decide) (fm_dec dtX11_chain 61 rfl) ?_
        refine pv_iload (pc := 101) (i := 4) rfl (fm_dec dtX11_chain 62 rfl) ?_
        refine pv_ishl (pc := 103) (fm_dec dtX11_chain 63 rfl) ?_
        refine pv_ior (pc := 104) (fm_dec dtX11_chain 64 rfl) ?_
        refine pv_istoren (pc := 105) (n := 3) 3 rfl (by decide) rfl (fm_dec dtX11_chain 65 rfl) ?_
        dsimp only [List.set_cons_zero, List.set_cons_succ]
        refine pv_goto (pc := 106) 59 (by decide) (fm_dec dtX11_chain 66 rfl) ?_
        have hnb : w.testBit v = false := Bool.eq_false_iff.mpr (fun h9 => h82 (by rw [hbe, hve]; exact (has8 w hw v hv8).mpr h9))
        have hp := pop8_add w hw v hv8 hnb
        have hle := pop8_le _ hp.2
        exact ih (8 - pop8 (w ||| 1 <<< v)) (by omega) _ _ (w ||| 1 <<< v) v (by rw [hbe, hve]; exact or8 w hw v hv8) hp.2 rfl hvi hv8
set_option maxRecDepth 20000 in
theorem t_chain {M : fmM} {Q : fmR → fmM → Prop} {i p : Int32} (hI : scInv Tm invM M) (hq : ∀ (r : fmR) (M' : fmM), tI r → scInv Tm invM M' → Q r M') : pvGood Tm 2 qX11_chain [.ref 0, .int i, .int p] M Q := by
  refine pvGood_of (Nat.le_of_ble_eq_true rfl) ?_
  show pvEv Tm 2 qX11_chain 0 [some (.ref 0), some (.int i), some (.int p), none, none] [] M Q
  obtain ⟨l, h4, hl⟩ := told8 hI
  have hI0 := hI.p00 (x := 0) (Or.inl rfl)
  refine pv_aloadn (pc := 0) (n := 0) 0 rfl rfl (fm_dec dtX11_chain 0 rfl) ?_
  refine pv_iconst (pc := 1) (v := 0) (by decide) (fm_dec dtX11_chain 1 rfl) ?_
  refine pv_putI (k := 0) (j := 0) (ci := 11) (pc := 2) pfl_X11_101 (by decide) rfl (by decide) (fm_dec dtX11_chain 2 rfl) ?_
  refine pv_aloadn (pc := 5) (n := 0) 0 rfl rfl (fm_dec dtX11_chain 3 rfl) ?_
  refine pv_aloadn (pc := 6) (n := 0) 0 rfl rfl (fm_dec dtX11_chain 4 rfl) ?_
  refine pv_iloadn (pc := 7) (n := 1) 1 rfl rfl (fm_dec dtX11_chain 5 rfl) ?_
  refine pv_invV1 (k := 0) (d' := 1) (pc := 8) pcv_X11_331 (by decide) rfl (Nat.le_of_ble_eq_true rfl) (by decide) (fm_dec dtX11_chain 6 rfl) ?_
  refine c_isLife (M := fmI M 0 0 0) h4 hl (fun k hk hkl => ?_) (fun hno => ?_)
  · refine pv_then1 ?_
    refine pv_if_ne (pc := 11) 18 (by decide) (fm_dec dtX11_chain 7 rfl) (fun _ => ?_) (fun hc11 => by exfalso; revert hc11; decide)
    refine pv_iconst (pc := 18) (v := 0) (by decide) (fm_dec dtX11_chain 10 rfl) ?_
    refine pv_iconst (pc := 19) (v := 1) (by decide) (fm_dec dtX11_chain 11 rfl) ?_
    refine pv_iconst (pc := 20) (v := 0) (by decide) (fm_dec dtX11_chain 12 rfl) ?_
    refine pv_invV3 (k := 0) (d' := 0) (pc := 21) pcv_X11_177 (by decide) rfl (Nat.le_of_ble_eq_true rfl) (by decide) (fm_dec dtX11_chain 13 rfl) ?_
    refine c_badF0 rfl ?_
    refine pv_then1 ?_
    refine pv_if_ne (pc := 24) 50 (by decide) (fm_dec dtX11_chain 14 rfl) (fun hc24 => by exfalso; revert hc24; decide) (fun _ => ?_)
    refine pv_aloadn (pc := 27) (n := 0) 0 rfl rfl (fm_dec dtX11_chain 15 rfl) ?_
    refine pv_iloadn (pc := 28) (n := 2) 2 rfl rfl (fm_dec dtX11_chain 16 rfl) ?_
    refine pv_iconst (pc := 29) (v := 0) (by decide) (fm_dec dtX11_chain 17 rfl) ?_
    refine pv_iconst (pc := 30) (v := 1) (by decide) (fm_dec dtX11_chain 18 rfl) ?_
    refine pv_iS3 (d' := 0) (pc := 31) pcs_X11_135 (Nat.le_of_ble_eq_true rfl) (by decide) (fm_dec dtX11_chain 19 rfl) ?_
    refine c_in (fun h31a h31b => ?_) (fun h31 => ?_)
    · refine pv_then1 ?_
      refine pv_if_ne (pc := 34) 41 (by decide) (fm_dec dtX11_chain 20 rfl) (fun _ => ?_) (fun hc34 => by exfalso; revert hc34; decide)
      refine pv_iconst (pc := 41) (v := 0) (by decide) (fm_dec dtX11_chain 23 rfl) ?_
      refine pv_iconst (pc := 42) (v := 2) (by decide) (fm_dec dtX11_chain 24 rfl) ?_
      refine pv_iconst (pc := 43) (v := 1) (by decide) (fm_dec dtX11_chain 25 rfl) ?_
      refine pv_invV3 (k := 0) (d' := 0) (pc := 44) pcv_X11_177 (by decide) rfl (Nat.le_of_ble_eq_true rfl) (by decide) (fm_dec dtX11_chain 26 rfl) ?_
      refine c_badF1 rfl ?_
      refine pv_then1 ?_
      refine pv_if_eq (pc := 47) 52 (by decide) (fm_dec dtX11_chain 27 rfl) (fun _ => ?_) (fun hc47 => by exfalso; revert hc47; decide)
      refine pv_iconst (pc := 52) (v := 1) (by decide) (fm_dec dtX11_chain 30 rfl) ?_
      refine pv_iloadn (pc := 53) (n := 1) 1 rfl rfl (fm_dec dtX11_chain 31 rfl) ?_
      refine pv_ishl (pc := 54) (fm_dec dtX11_chain 32 rfl) ?_
      refine pv_istoren (pc := 55) (n := 3) 3 rfl (by decide) rfl (fm_dec dtX11_chain 33 rfl) ?_
      dsimp only [List.set_cons_zero, List.set_cons_succ]
      refine pv_iloadn (pc := 56) (n := 1) 1 rfl rfl (fm_dec dtX11_chain 34 rfl) ?_
      refine pv_istore (pc := 57) (i := 4) (by decide) rfl (fm_dec dtX11_chain 35 rfl) ?_
      dsimp only [List.set_cons_zero, List.set_cons_succ]
      have hi9 : i = nI k := nI_is hk (by omega)
      exact ch_loop hI0 (fun n => hq _ _ ⟨n, rfl⟩ hI0) _ _ _ (1 <<< k) k (by rw [hi9]; exact (one8 k (by omega)).1) (one8 k (by omega)).2 rfl hk (by omega)
    · refine pv_then1 ?_
      refine pv_if_ne (pc := 34) 41 (by decide) (fm_dec dtX11_chain 20 rfl) (fun hc34 => by exfalso; revert hc34; decide) (fun _ => ?_)
      refine pv_iconst (pc := 37) (v := 1) (by decide) (fm_dec dtX11_chain 21 rfl) ?_
      refine pv_goto (pc := 38) 42 (by decide) (fm_dec dtX11_chain 22 rfl) ?_
      refine pv_iconst (pc := 42) (v := 2) (by decide) (fm_dec dtX11_chain 24 rfl) ?_
      refine pv_iconst (pc := 43) (v := 1) (by decide) (fm_dec dtX11_chain 25 rfl) ?_
      refine pv_invV3 (k := 0) (d' := 0) (pc := 44) pcv_X11_177 (by decide) rfl (Nat.le_of_ble_eq_true rfl) (by decide) (fm_dec dtX11_chain 26 rfl) ?_
      refine c_badT1 rfl (by decide) ?_
      refine pv_then1 ?_
      refine pv_if_eq (pc := 47) 52 (by decide) (fm_dec dtX11_chain 27 rfl) (fun hc47 => by exfalso; revert hc47; decide) (fun _ => ?_)
      refine pv_iconst (pc := 50) (v := 0) (by decide) (fm_dec dtX11_chain 28 rfl) ?_
      exact pv_ireturn (pc := 51) rfl (fm_dec dtX11_chain 29 rfl) (hq _ _ ⟨_, rfl⟩ (by first | exact (hI0.p00 (Or.inr (Or.inl rfl))).p2 | exact (hI0.p00 (Or.inr (Or.inr rfl))).p2))
  · refine pv_then1 ?_
    refine pv_if_ne (pc := 11) 18 (by decide) (fm_dec dtX11_chain 7 rfl) (fun hc11 => by exfalso; revert hc11; decide) (fun _ => ?_)
    refine pv_iconst (pc := 14) (v := 1) (by decide) (fm_dec dtX11_chain 8 rfl) ?_
    refine pv_goto (pc := 15) 19 (by decide) (fm_dec dtX11_chain 9 rfl) ?_
    refine pv_iconst (pc := 19) (v := 1) (by decide) (fm_dec dtX11_chain 11 rfl) ?_
    refine pv_iconst (pc := 20) (v := 0) (by decide) (fm_dec dtX11_chain 12 rfl) ?_
    refine pv_invV3 (k := 0) (d' := 0) (pc := 21) pcv_X11_177 (by decide) rfl (Nat.le_of_ble_eq_true rfl) (by decide) (fm_dec dtX11_chain 13 rfl) ?_
    refine c_badT0 rfl (by decide) ?_
    refine pv_then1 ?_
    refine pv_if_ne (pc := 24) 50 (by decide) (fm_dec dtX11_chain 14 rfl) (fun _ => ?_) (fun hc24 => by exfalso; revert hc24; decide)
    refine pv_iconst (pc := 50) (v := 0) (by decide) (fm_dec dtX11_chain 28 rfl) ?_
    exact pv_ireturn (pc := 51) rfl (fm_dec dtX11_chain 29 rfl) (hq _ _ ⟨_, rfl⟩ (by first | exact (hI0.p00 (Or.inr (Or.inl rfl))).p2 | exact (hI0.p00 (Or.inr (Or.inr rfl))).p2))
theorem inv_top {k : Nat} (h : k = 3 ∨ (27 ≤ k ∧ k < 35) ∨ (43 ≤ k ∧ k < 67) ∨ (91 ≤ k ∧ k < 411) ∨ (417 ≤ k ∧ k < 503)) (j : Nat) : scAt (invM k) j = scTop := by
  by_cases h3 : k = 3
  · subst h3
    rfl
  · have e : invM k = [((-2147483648), 2147483647)] := by
      unfold invM
      rw [if_neg (show ¬ k = 999 by omega), if_neg (show ¬ k < 27 by omega)]
      by_cases h1 : k < 35
      · rw [if_pos h1]
      · rw [if_neg h1, if_neg (show ¬ k < 43 by omega)]
        by_cases h2 : k < 67
        · rw [if_pos h2]
        · rw [if_neg h2, if_neg (show ¬ k < 91 by omega)]
          by_cases h4 : k < 251
          · rw [if_pos h4]
          · rw [if_neg h4]
            by_cases h5 : k < 411
            · rw [if_pos h5]
            · rw [if_neg h5, if_neg (show ¬ k < 417 by omega)]
              by_cases h6 : k < 423
              · rw [if_pos h6]
              · rw [if_neg h6, if_pos (show k < 503 by omega)]
    rw [e]
    rfl
theorem inv_0 : ∀ j, j < 49 → ¬ (j = 0 ∨ j = 1 ∨ j = 3 ∨ j = 31 ∨ j = 32 ∨ j = 34) → scAt (invM 0) j = scTop := by decide
/-- the invariant, cell by cell: what stays, what is free, the rest by itself -/
theorem scInv.by {M M' : fmM} (hI : scInv Tm invM M) (h0 : ∀ j, (j = 0 ∨ j = 1 ∨ j = 3 ∨ j = 31 ∨ j = 32 ∨ j = 34) → (scAt (invM 0) j).1 ≤ (M'.1 0 j).toInt ∧ (M'.1 0 j).toInt ≤ (scAt (invM 0) j).2) (h : ∀ k j, k ≠ 0 → j < Tm.2.2.1 k → M'.1 k j = M.1 k j ∨ scAt (invM k) j = scTop ∨ ((scAt (invM k) j).1 ≤ (M'.1 k j).toInt ∧ (M'.1 k j).toInt ≤ (scAt (invM k) j).2)) (hJ : jmOk M'.1) : scInv Tm invM M' := by
  refine ⟨fun k j hj => ?_, fun _ => hJ⟩
  by_cases e : k = 0
  · subst e
    by_cases e2 : j = 0 ∨ j = 1 ∨ j = 3 ∨ j = 31 ∨ j = 32 ∨ j = 34
    · exact h0 j e2
    · rw [inv_0 j hj e2]
      exact scq_t _
  · rcases h k j e hj with h1 | h1 | h1
    · rw [h1]
      exact hI.1 k j hj
    · rw [h1]
      exact scq_t _
    · exact h1
theorem inv_fed {M : fmM} (hI : scInv Tm invM M) : rFed M := fun i hi => hI.1 1 i hi
theorem inv_rf {M : fmM} {w : Int32} {r : Nat} (hI : scInv Tm invM M) (hw : w = 0 ∨ w = 1 ∨ w = 2) : scInv Tm invM (rfM M w r) := ((hI.p00 (Or.inl rfl)).p00 hw).p2
theorem inv_c0 {M M' : fmM} (hI : scInv Tm invM M) {a : Int} (h00 : M'.1 0 0 = 0) (h01 : M'.1 0 1 = 0) (h03 : (M'.1 0 3).toInt = a) (ha : -1 ≤ a ∧ a ≤ 600) (h31 : M'.1 0 31 = M.1 0 31 ∨ (0 ≤ (M'.1 0 31).toInt ∧ (M'.1 0 31).toInt ≤ 6)) (h32 : M'.1 0 32 = M.1 0 32 ∨ M'.1 0 32 = 0) (h34 : M'.1 0 34 = M.1 0 34 ∨ M'.1 0 34 = 0) : ∀ j, (j = 0 ∨ j = 1 ∨ j = 3 ∨ j = 31 ∨ j = 32 ∨ j = 34) → (scAt (invM 0) j).1 ≤ (M'.1 0 j).toInt ∧ (M'.1 0 j).toInt ≤ (scAt (invM 0) j).2 := by
  intro j hj
  rcases hj with rfl | rfl | rfl | rfl | rfl | rfl
  · rw [h00]; decide
  · rw [h01]; decide
  · rw [h03]; exact ha
  · rcases h31 with h | h
    · rw [h]; exact hI.1 0 31 (by decide)
    · exact h
  · rcases h32 with h | h
    · rw [h]; exact hI.1 0 32 (by decide)
    · rw [h]; decide
  · rcases h34 with h | h
    · rw [h]; exact hI.1 0 34 (by decide)
    · rw [h]; decide
theorem jm_hours {M M' : fmM} (hI : scInv Tm invM M) (h4 : M'.1 4 0 = M.1 4 0) (h : ∀ k j, 35 ≤ k → k < 43 → M'.1 k j = M.1 k j) : ∀ i : Nat, i < 8 → (i : Int) < (M'.1 4 0).toInt → 1 ≤ (M'.1 (35 + i) 3).toInt := fun i hi hl => by
  rw [h _ _ (by omega) (by omega)]
  rw [h4] at hl
  exact (hI.2 rfl).2 i hi hl
theorem inv_law {M M' : fmM} {cs : tC} (hI : scInv Tm invM M) (hd : dpR 0 cs = some 1) (h : lawOk M M' cs) : scInv Tm invM M' := by
  obtain ⟨⟨h1, h2⟩, h3, h4, h5, h6, h7, h8, h9⟩ := h
  refine hI.by (inv_c0 hI h1 h2 (a := -1) (by rw [h3]; decide) (by decide) (Or.inl (h8 31 (by decide) (by decide) (by decide))) (Or.inl (h8 32 (by decide) (by decide) (by decide))) (Or.inl (h8 34 (by decide) (by decide) (by decide)))) (fun k j hk hj => ?_) ⟨⟨cs, h4, by omega, Or.inr hd, h6⟩, jm_hours hI (h7 4 0 (by decide) (by omega)) (fun k j a b => h7 k j (by omega) (by omega))⟩
  by_cases e : 91 ≤ k ∧ k < 411
  · exact Or.inr (Or.inl (inv_top (by omega) j))
  · exact Or.inl (h7 k j hk e)
theorem inv_lawB {M M' : fmM} {a : Nat} (hI : scInv Tm invM M) (h : lawBad M M' a) : scInv Tm invM M' := by
  obtain ⟨⟨h1, h2⟩, h3, h4, h5, h6, h7, h8, h9⟩ := h
  obtain ⟨⟨cs, j1, j2, j3, j4⟩, -⟩ := hI.2 rfl
  refine hI.by (inv_c0 hI h1 h2 (a := a) h3 (by omega) (Or.inl (h8 31 (by decide) (by decide) (by decide))) (Or.inl (h8 32 (by decide) (by decide) (by decide))) (Or.inl (h8 34 (by decide) (by decide) (by decide)))) (fun k j hk hj => ?_) ⟨⟨cs, (by rw [h5]; exact j1), j2, j3, fun i c hi => ?_⟩, jm_hours hI (h7 4 0 (by decide) (by omega)) (fun k j a b => h7 k j (by omega) (by omega))⟩
  · by_cases e : 91 ≤ k ∧ k < 411
    · exact Or.inr (Or.inl (inv_top (by omega) j))
    · exact Or.inl (h7 k j hk e)
  · have hl : i < cs.length := (List.getElem?_eq_some_iff.mp hi).1
    rw [h6 _ _ (by omega) (by omega), h6 _ _ (by omega) (by omega)]
    exact j4 i c hi
theorem t_law {M : fmM} {Q : fmR → fmM → Prop} {nn : Int32} (hI : scInv Tm invM M) (hq : ∀ (r : fmR) (M' : fmM), tI r → scInv Tm invM M' → Q r M') : pvGood Tm 27 qX11_law [.ref 0, .int nn] M Q := c_law (inv_fed hI) (fun _ => hq _ _ ⟨_, rfl⟩ (inv_rf hI (Or.inr (Or.inl rfl)))) (fun n0 cs M' _ _ _ _ hd h => hq _ _ ⟨_, rfl⟩ (inv_law hI hd h)) (fun n0 k a r M' _ _ _ _ _ _ h => hq _ _ ⟨_, rfl⟩ (inv_lawB hI h))
/-- the law's cells stay -/
theorem jm_law {M M' : fmM} (hI : scInv Tm invM M) (h17 : M'.1 0 17 = M.1 0 17) (h : ∀ k j, 91 ≤ k → k < 251 → M'.1 k j = M.1 k j) : ∃ cs : tC, (M'.1 0 17).toInt = (cs.length : Int) ∧ cs.length ≤ 160 ∧ (cs = [] ∨ dpR 0 cs = some 1) ∧ lwHas M'.1 91 cs := by
  obtain ⟨⟨cs, j1, j2, j3, j4⟩, -⟩ := hI.2 rfl
  refine ⟨cs, (by rw [h17]; exact j1), j2, j3, fun i c hi => ?_⟩
  have hl : i < cs.length := (List.getElem?_eq_some_iff.mp hi).1
  rw [h _ _ (by omega) (by omega), h _ _ (by omega) (by omega)]
  exact j4 i c hi
theorem st_k {M M1 : fmM} {tx : tX} {n k j : Nat} (h : stOk (fmI M 0 0 0) M1 tx n) (hk : k ≠ 0) : M1.1 k j = M.1 k j := by rw [h.2.2.2.2.2.2.1 k j hk, fmI_k _ _ hk]
theorem st_j {M M1 : fmM} {tx : tX} {n j : Nat} (h : stOk (fmI M 0 0 0) M1 tx n) (hj : 9 ≤ j) : M1.1 0 j = M.1 0 j := by rw [h.2.2.2.2.2.2.2.1 j (by omega) (by omega) (by omega) (by omega) (by omega) (by omega) (by omega), fmI_j _ _ (by omega)]
theorem st_0 {M M1 : fmM} {tx : tX} {n : Nat} (h : stOk (fmI M 0 0 0) M1 tx n) : M1.1 0 0 = 0 := by rw [h.2.2.2.2.2.2.2.1 0 (by decide) (by decide) (by decide) (by decide) (by decide) (by decide) (by decide), fmI_s]
theorem inv_page {M M1 M2 : fmM} {ls : tC} {tx : tX} {n : Nat} (hI : scInv Tm invM M) (hs : stOk (fmI M 0 0 0) M1 tx n) (h : pgEnd M1 M2 ls) : scInv Tm invM M2 := by
  obtain ⟨h1, h2, h3, h4, h5, h5b, h6, h7, h8⟩ := h
  have g : ∀ j, 9 ≤ j → j ≠ 31 → M2.1 0 j = M.1 0 j := fun j a b => (h7 j (by omega) (by omega) (by omega) (by omega) b).trans (st_j hs a)
  have gk : ∀ k j, k ≠ 0 → ¬ (411 ≤ k ∧ k < 423) → M2.1 k j = M.1 k j := fun k j a b => (h6 k j a b).trans (st_k hs a)
  refine hI.by (inv_c0 hI ((h7 0 (by decide) (by decide) (by decide) (by decide) (by decide)).trans (st_0 hs)) ((h7 1 (by decide) (by decide) (by decide) (by decide) (by decide)).trans hs.2.2.2.2.1) (a := -1) (by rw [h1]; decide) (by decide) (Or.inr (by omega)) (Or.inl (g 32 (by decide) (by decide))) (Or.inl (g 34 (by decide) (by decide)))) (fun k j hk hj => ?_) ⟨jm_law hI (g 17 (by decide) (by decide)) (fun k j a b => gk k j (by omega) (by omega)), jm_hours hI (gk 4 0 (by decide) (by omega)) (fun k j a b => gk k j (by omega) (by omega))⟩
  by_cases e : 417 ≤ k ∧ k < 423
  · exact Or.inr (Or.inl (inv_top (by omega) j))
  · by_cases e2 : 411 ≤ k ∧ k < 417
    · by_cases e3 : 411 + ls.length ≤ k
      · exact Or.inl ((h5b k j e3 e2.2).trans (st_k hs hk))
      · obtain ⟨i, rfl⟩ : ∃ i, k = 411 + i := ⟨k - 411, by omega⟩
        have hl : i < ls.length := by omega
        have hc := h4 i ls[i] (List.getElem?_eq_getElem hl)
        have hb := h5 ls[i] (List.getElem_mem hl)
        have hj2 : j < 2 := by
          rw [(rw_page.2.2.2 i (by omega)).2.2.2.2] at hj
          exact hj
        have hv : ∀ j, j < 2 → scAt (invM (411 + i)) j = if j = 0 then (0, 5) else (0, 1) := by
          rcases (show i = 0 ∨ i = 1 ∨ i = 2 ∨ i = 3 ∨ i = 4 ∨ i = 5 by omega) with rfl | rfl | rfl | rfl | rfl | rfl <;> decide
        refine Or.inr (Or.inr ?_)
        rw [hv j hj2]
        rcases (show j = 0 ∨ j = 1 by omega) with rfl | rfl
        · show 0 ≤ (M2.1 (411 + i) 0).toInt ∧ (M2.1 (411 + i) 0).toInt ≤ 5
          omega
        · show 0 ≤ (M2.1 (411 + i) 1).toInt ∧ (M2.1 (411 + i) 1).toInt ≤ 1
          omega
    · exact Or.inl (gk k j hk (by omega))
theorem inv_pageB {M M1 M2 : fmM} {tx : tX} {n a : Nat} (hI : scInv Tm invM M) (hs : stOk (fmI M 0 0 0) M1 tx n) (ha : a ≤ 600) (h : pgBad M1 M2 a) : scInv Tm invM M2 := by
  obtain ⟨h1, h2, h3, h6, h7, h8⟩ := h
  have g : ∀ j, 9 ≤ j → M2.1 0 j = M.1 0 j := fun j a => by
    by_cases b : j = 31
    · subst b
      exact h2.trans (st_j hs (by decide))
    · exact (h7 j (by omega) (by omega) (by omega) (by omega) b).trans (st_j hs a)
  have gk : ∀ k j, k ≠ 0 → ¬ (417 ≤ k ∧ k < 423) → M2.1 k j = M.1 k j := fun k j a b => by
    by_cases e : 411 ≤ k ∧ k < 417
    · exact (h3 k j e.1 e.2).trans (st_k hs a)
    · exact (h6 k j a (by omega)).trans (st_k hs a)
  refine hI.by (inv_c0 hI ((h7 0 (by decide) (by decide) (by decide) (by decide) (by decide)).trans (st_0 hs)) ((h7 1 (by decide) (by decide) (by decide) (by decide) (by decide)).trans hs.2.2.2.2.1) (a := a) h1 (by omega) (Or.inl (g 31 (by decide))) (Or.inl (g 32 (by decide))) (Or.inl (g 34 (by decide)))) (fun k j hk hj => ?_) ⟨jm_law hI (g 17 (by decide)) (fun k j a b => gk k j (by omega) (by omega)), jm_hours hI (gk 4 0 (by decide) (by omega)) (fun k j a b => gk k j (by omega) (by omega))⟩
  by_cases e : 417 ≤ k ∧ k < 423
  · exact Or.inr (Or.inl (inv_top (by omega) j))
  · exact Or.inl (gk k j hk e)
theorem t_page {M : fmM} {Q : fmR → fmM → Prop} {nn : Int32} (hI : scInv Tm invM M) (hq : ∀ (r : fmR) (M' : fmM), tI r → scInv Tm invM M' → Q r M') : pvGood Tm 3 qX11_page [.ref 0, .int nn] M Q := c_page (inv_fed hI) (fun _ => hq _ _ ⟨_, rfl⟩ (inv_rf hI (Or.inr (Or.inl rfl)))) (fun n0 M1 M2 ls r _ _ _ hs _ h _ => hq _ _ ⟨_, rfl⟩ (inv_page hI hs h)) (fun n0 k a M1 M2 r _ h60 _ hs _ hka h _ => hq _ _ ⟨_, rfl⟩ (inv_pageB hI hs (by omega) h))
theorem inv_r35 : ∀ i, i < 8 → ∀ j, j < 6 → scAt (invM (35 + i)) j = [(0, 110), (0, 64), (0, 99), (0, 9), (-1, 40), (-1, 7)].getD j scTop := by decide
theorem inv_r67 : ∀ i, i < 24 → ∀ j, j < 3 → scAt (invM (67 + i)) j = [(0, 7), (0, 5), (0, 60)].getD j scTop := by decide
theorem inv_7 : ∀ i, i < 8 → scAt (invM 7) (1 + i) = (-1000, 200) := by decide
theorem inv_drawer {M M1 M2 : fmM} {D : dD} {tx : tX} {n : Nat} (hI : scInv Tm invM M) (hs : stOk (fmI M 0 0 0) M1 tx n) (hD : dOk D) (h : dwEnd M1 M2 D) : scInv Tm invM M2 := by
  obtain ⟨h3, Mx, hF, ⟨a1, a2, a3, a4, a5⟩, ⟨b1, b2, b3⟩, ⟨c1, c2, c3, c4, c5⟩, d1, d2, d3, d4⟩ := h
  obtain ⟨D1, D2, D3, D4, D5, D6, D7, D8⟩ := hD
  have g0 : ∀ j, j < 2 → M2.1 0 j = M1.1 0 j := fun j hj => by
    rw [d2 j (by omega) (by omega) (by omega) (by omega) (by omega), fmI_j _ _ (by omega)]
    exact hF.2.1 j (by omega) (by omega) (by omega) (by omega)
  have gk : ∀ k j, k ≠ 0 → k ≠ 3 → k ≠ 4 → k ≠ 7 → ¬ (27 ≤ k ∧ k < 91) → M2.1 k j = M.1 k j := fun k j x1 x2 x3 x4 x5 => by
    rw [d1 k j x1 x3 x4 (by omega) (by omega), fmI_k _ _ x1, hF.1 k j x1 x2 (by omega) (by omega)]
    exact st_k hs x1
  have gr : ∀ k j, (35 + D.1 ≤ k ∧ k < 43) ∨ (67 + D.2.2.1 ≤ k ∧ k < 91) → M2.1 k j = M.1 k j := fun k j x => by
    rw [d3 k j x, fmI_k _ _ (by omega), hF.1 k j (by omega) (by omega) (by omega) (by omega)]
    exact st_k hs (by omega)
  refine hI.by (inv_c0 hI ((g0 0 (by decide)).trans (st_0 hs)) ((g0 1 (by decide)).trans hs.2.2.2.2.1) (a := -1) (by rw [h3]; decide) (by decide) (Or.inr (by rw [c2]; decide)) (Or.inr c3) (Or.inr c5)) (fun k j hk hj => ?_) ⟨⟨[], (by rw [c1]; decide), by decide, Or.inl rfl, fun i c hi => by cases hi⟩, fun i hi hl => ?_⟩
  · by_cases e3 : k = 3 ∨ (27 ≤ k ∧ k < 35) ∨ (43 ≤ k ∧ k < 67)
    · exact Or.inr (Or.inl (inv_top (by omega) j))
    · by_cases e4 : k = 4
      · subst e4
        have hj : j < 6 := hj
        refine Or.inr (Or.inr ?_)
        rcases (show j = 0 ∨ j = 1 ∨ j = 2 ∨ j = 3 ∨ j = 4 ∨ j = 5 by omega) with rfl | rfl | rfl | rfl | rfl | rfl
        · rw [a1]; exact ⟨by show (0 : Int) ≤ _; omega, by show _ ≤ (8 : Int); omega⟩
        · rw [a2]; exact ⟨by show (0 : Int) ≤ _; omega, by show _ ≤ (24 : Int); omega⟩
        · rw [a3 2 (by decide) (by decide)]; exact D5
        · rw [a3 3 (by decide) (by decide)]; exact D6
        · rw [a3 4 (by decide) (by decide)]; exact D7
        · rw [a3 5 (by decide) (by decide)]; exact D8
      · by_cases e7 : k = 7
        · subst e7
          have hj : j < 14 := hj
          by_cases e8 : 1 ≤ j ∧ j < 9
          · obtain ⟨i, rfl⟩ : ∃ i, j = 1 + i := ⟨j - 1, by omega⟩
            refine Or.inr (Or.inr ?_)
            rw [inv_7 i (by omega), b1 i (by omega)]
            split
            · rename_i hx
              have := (D3 i hx.1).2.2.2.2.1
              exact ⟨by show (-1000 : Int) ≤ _; omega, by show _ ≤ (200 : Int); omega⟩
            · decide
          · refine Or.inr (Or.inr ?_)
            by_cases e9 : j = 9
            · subst e9
              rw [b2]
              exact ⟨by show (0 : Int) ≤ _; omega, by show _ ≤ (12 : Int); omega⟩
            · rw [b3 j (by omega)]
              rcases (show j = 0 ∨ j = 10 ∨ j = 11 ∨ j = 12 ∨ j = 13 by omega) with rfl | rfl | rfl | rfl | rfl <;> decide
        · by_cases e35 : 35 ≤ k ∧ k < 43
          · by_cases el : 35 + D.1 ≤ k
            · exact Or.inl (gr k j (Or.inl ⟨el, e35.2⟩))
            · obtain ⟨i, rfl⟩ : ∃ i, k = 35 + i := ⟨k - 35, by omega⟩
              have hj6 : j < 6 := by
                rw [(rw_life.2.2.2 i (by omega)).2.2.2.2] at hj
                exact hj
              have hd := D3 i (by omega)
              refine Or.inr (Or.inr ?_)
              rw [inv_r35 i (by omega) j hj6, a4 i (by omega) j hj6]
              rcases (show j = 0 ∨ j = 1 ∨ j = 2 ∨ j = 3 ∨ j = 4 ∨ j = 5 by omega) with rfl | rfl | rfl | rfl | rfl | rfl
              · exact hd.1
              · exact hd.2.1
              · exact ⟨by show (0 : Int) ≤ _; omega, hd.2.2.1.2⟩
              · exact ⟨by show (0 : Int) ≤ _; omega, hd.2.2.2.1.2⟩
              · exact hd.2.2.2.2.1
              · exact ⟨hd.2.2.2.2.2.1, by show _ ≤ (7 : Int); omega⟩
          · by_cases e67 : 67 ≤ k ∧ k < 91
            · by_cases el : 67 + D.2.2.1 ≤ k
              · exact Or.inl (gr k j (Or.inr ⟨el, e67.2⟩))
              · obtain ⟨i, rfl⟩ : ∃ i, k = 67 + i := ⟨k - 67, by omega⟩
                have hj3 : j < 3 := by
                  rw [(rw_fact.2.2.2 i (by omega)).2.2.2.2] at hj
                  exact hj
                have hd := D4 i (by omega)
                refine Or.inr (Or.inr ?_)
                rw [inv_r67 i (by omega) j hj3, a5 i (by omega) j hj3]
                rcases (show j = 0 ∨ j = 1 ∨ j = 2 by omega) with rfl | rfl | rfl
                · exact ⟨hd.1.1, by show _ ≤ (7 : Int); omega⟩
                · exact hd.2.1
                · exact ⟨by show (0 : Int) ≤ _; omega, hd.2.2.2⟩
            · exact Or.inl (gk k j hk (by omega) e4 e7 (by omega))
  · rw [a1] at hl
    rw [a4 i (by omega) 3 (by decide)]
    exact (D3 i (by omega)).2.2.2.1.1
theorem inv_drawerB {M M1 M2 : fmM} {tx : tX} {n a : Nat} (hI : scInv Tm invM M) (hs : stOk (fmI M 0 0 0) M1 tx n) (ha : a ≤ 600) (h : dwBad M1 M2 a) : scInv Tm invM M2 := by
  obtain ⟨h1, Mx, hF, rfl⟩ := h
  have g : ∀ j, j ≠ 3 → j ≠ 4 → j ≠ 5 → j ≠ 6 → j ≠ 7 → (fmI Mx 0 3 (Mx.1 0 6)).1 0 j = M1.1 0 j := fun j x1 x2 x3 x4 x5 => by
    rw [fmI_j _ _ x1]
    exact hF.2.1 j x2 x3 x4 x5
  have gk : ∀ k j, k ≠ 0 → k ≠ 3 → ¬ (27 ≤ k ∧ k < 35) → ¬ (43 ≤ k ∧ k < 67) → (fmI Mx 0 3 (Mx.1 0 6)).1 k j = M.1 k j := fun k j x1 x2 x3 x4 => by
    rw [fmI_k _ _ x1, hF.1 k j x1 x2 x3 x4]
    exact st_k hs x1
  have gj : ∀ j, 9 ≤ j → (fmI Mx 0 3 (Mx.1 0 6)).1 0 j = M.1 0 j := fun j x => (g j (by omega) (by omega) (by omega) (by omega) (by omega)).trans (st_j hs x)
  refine hI.by (inv_c0 hI ((g 0 (by decide) (by decide) (by decide) (by decide) (by decide)).trans (st_0 hs)) ((g 1 (by decide) (by decide) (by decide) (by decide) (by decide)).trans hs.2.2.2.2.1) (a := a) h1 (by omega) (Or.inl (gj 31 (by decide))) (Or.inl (gj 32 (by decide))) (Or.inl (gj 34 (by decide)))) (fun k j hk hj => ?_) ⟨jm_law hI (gj 17 (by decide)) (fun k j a b => gk k j (by omega) (by omega) (by omega) (by omega)), jm_hours hI (gk 4 0 (by decide) (by decide) (by omega) (by omega)) (fun k j a b => gk k j (by omega) (by omega) (by omega) (by omega))⟩
  by_cases e : k = 3 ∨ (27 ≤ k ∧ k < 35) ∨ (43 ≤ k ∧ k < 67)
  · exact Or.inr (Or.inl (inv_top (by omega) j))
  · exact Or.inl (gk k j hk (by omega) (by omega) (by omega))
theorem t_drawer {M : fmM} {Q : fmR → fmM → Prop} {nn : Int32} (hI : scInv Tm invM M) (hq : ∀ (r : fmR) (M' : fmM), tI r → scInv Tm invM M' → Q r M') : pvGood Tm 6 qX11_drawer [.ref 0, .int nn] M Q := by
  have h6 : (M.1 0 1).toInt ≤ 600 := (hI.1 0 1 (by decide)).2
  exact c_drawer (inv_fed hI) h6 (fun _ => hq _ _ ⟨_, rfl⟩ (inv_rf hI (Or.inr (Or.inl rfl)))) (fun n0 M1 M2 D r _ _ hs _ hD h _ => hq _ _ ⟨_, rfl⟩ (inv_drawer hI hs hD h)) (fun n0 k a M1 M2 r _ hn hs _ hka h _ => hq _ _ ⟨_, rfl⟩ (inv_drawerB hI hs (by omega) h))
