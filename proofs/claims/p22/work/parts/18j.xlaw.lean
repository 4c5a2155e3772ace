-- THE CLASS'S LAW, exactly
theorem spL_sk {tx : tX} {n p : Nat} (ht : tOk tx n) (hp : p ≤ n) : ∀ (f md o : Nat), md < 3 → spL tx f md o (sk tx p) = spL tx f md o p := by
  intro f
  induction f with
  | zero => intro md o _; rfl
  | succ f ih =>
    intro md o hm
    match md, hm with
    | 0, _ =>
      show spApp (spL tx f 1 o (sk tx p)) _ = spApp (spL tx f 1 o p) _
      rw [ih 1 o (by decide)]
    | 1, _ =>
      show spApp (spL tx f 2 o (sk tx p)) _ = spApp (spL tx f 2 o p) _
      rw [ih 2 o (by decide)]
    | 2, _ =>
      show spOne tx _ o (sk tx (sk tx p)) = spOne tx _ o (sk tx p)
      rw [sk_sk ht hp]
    | md + 3, h => omega
theorem fmA_kk {M : fmM} {k k' : Nat} {f : Nat → Int32} (h : k' ≠ k) : (fmA M k f).1 k' = M.1 k' := by simp [fmA, h]
theorem fmA_ss {M : fmM} {k : Nat} {f : Nat → Int32} : (fmA M k f).1 k = f := by simp [fmA]
theorem inv_A24 {M : fmM} {f : Nat → Int32} (hI : scInv Tx invX M) : scInv Tx invX (fmA M 24 f) := by
  refine ⟨fun k j hj => ?_, fun hm => absurd hm (by decide)⟩
  by_cases e : k = 24
  · subst e
    exact scq_t _
  · rw [fmA_kk e]
    exact hI.1 k j hj
/-- a law stands -/
def lxOk (M M' : fmM) (cs : tC) : Prop := (M'.1 23 3).toInt = (cs.length : Int) ∧ cs.length ≤ 150 ∧ (∀ i c, cs[i]? = some c → (M'.1 24 i).toInt = cdV c) ∧ scInv Tx invX M' ∧ (∀ k j, k ≠ 1 → k ≠ 23 → k ≠ 24 → k ≠ 25 → M'.1 k j = M.1 k j ∧ M'.2 k j = M.2 k j) ∧ (∀ j, j ≠ 3 → j ≠ 4 → j ≠ 5 → M'.1 1 j = M.1 1 j)
def lxM (M : fmM) : fmM := fmI (fmA M 24 (va_cpy (M.1 25) (M.1 24) 0 0 150)) 23 3 (M.1 23 4)
theorem lx_ok {M M1 : fmM} {tx : tX} {n q : Nat} {cs : tC} (k : xlOk (fmI M 23 4 0) M1 tx n q 0 cs) (hq : cs.length ≤ q) (hn : n ≤ 150) : lxOk M (lxM M1) cs := by
  have hl : cs.length ≤ 150 := by have := k.1.2.2.1; omega
  have e4 : (M1.1 23 4).toInt = (cs.length : Int) := by simpa using k.2.2.2.1
  refine ⟨?_, hl, fun i c hi => ?_, ?_, fun k' j a b c d => ⟨?_, ?_⟩, fun j a b c => ?_⟩
  · unfold lxM
    rw [fmI_s]
    exact e4
  · have h9 : i < cs.length := (List.getElem?_eq_some_iff.mp hi).1
    unfold lxM
    rw [fmI_k _ _ (by decide), fmA_ss, scq_cpy, if_pos (by omega)]
    have h8 := k.2.2.2.2.1 i c hi
    rw [Nat.zero_add] at h8
    exact h8
  · refine xInv.put (inv_A24 k.2.2.1) ⟨?_, ?_⟩
    · show (0 : Int) ≤ _
      omega
    · show _ ≤ (150 : Int)
      omega
  · unfold lxM
    rw [fmI_k _ _ b, fmA_kk c, k.2.2.2.2.2.1 k' j a (fun h => b h.1) (fun h => d h.1), fmI_k _ _ b]
  · show M1.2 k' j = _
    exact k.2.2.2.2.2.2.1 k' j a b d
  · unfold lxM
    rw [fmI_k _ _ (by decide), fmA_kk (by decide), k.2.2.2.2.2.2.2 j a b c, fmI_k _ _ (by decide)]
theorem lx_bad {M M1 : fmM} {k a : Nat} (h : xlBad (fmI M 23 4 0) M1 k a) : xlBad M M1 k a := ⟨h.1, h.2.1, h.2.2.1, h.2.2.2.1, ⟨fun k' j a b c => (h.2.2.2.2.1 k' j a b c).trans (by rw [fmI_at, if_neg b]), fun k' j a b c => h.2.2.2.2.2.1 k' j a b c, fun j a b c => (h.2.2.2.2.2.2 j a b c).trans (by rw [fmI_k _ _ (by decide)])⟩⟩
set_option maxRecDepth 20000 in
theorem c_xlread {M : fmM} {Q : fmR → fmM → Prop} {tx : tX} {n : Nat} (hS : xS2 M tx n 0) (hf : M.1 1 4 = 0) (hI : scInv Tx invX M) (h150 : n ≤ 150) (hok : ∀ (M' : fmM) (cs : tC), spLaw tx n = .inr cs → lxOk M M' cs → Q (.inl (some (.int 1))) M') (hbad : ∀ (M' : fmM) (k a : Nat), spLaw tx n = .inl (k, a) → xlBad M M' k a → Q (.inl (some (.int 0))) M') : pvGood Tx 40 qX1_read [.ref 23, .ref 1] M Q := by
  refine pvGood_of (Nat.le_of_ble_eq_true rfl) ?_
  show pvEv Tx 40 qX1_read 0 [some (.ref 23), some (.ref 1)] [] M Q
  have hP0 : xlPre (fmI M 23 4 0) tx n 0 0 := ⟨hS.of rfl rfl rfl, hf, xInv.put hI (by decide), rfl, Nat.le_refl _, h150⟩
  have hne0 : ¬ spL tx 700 0 0 0 = .inl (9, 0) := spL_fuel hS.2.2.2.1 700 0 0 0 (Nat.zero_le _) (by have h9 : spFu 0 ≤ 10 := (by decide); omega)
  have eS : spL tx 700 0 0 (sk tx 0) = spL tx 700 0 0 0 := spL_sk hS.2.2.2.1 (Nat.zero_le _) 700 0 0 (by decide)
  refine pv_aloadn (pc := 0) (n := 0) 0 rfl rfl (fm_dec dtX1_read 0 rfl) ?_
  refine pv_iconst (pc := 1) (v := 0) (by decide) (fm_dec dtX1_read 1 rfl) ?_
  refine pv_putI (k := 23) (j := 4) (ci := 1) (pc := 2) pfl_X1_28 (by decide) rfl (by decide) (fm_dec dtX1_read 2 rfl) ?_
  refine pv_aloadn (pc := 5) (n := 0) 0 rfl rfl (fm_dec dtX1_read 3 rfl) ?_
  refine pv_aloadn (pc := 6) (n := 1) 1 rfl rfl (fm_dec dtX1_read 4 rfl) ?_
  refine pv_iconst (pc := 7) (v := 0) (by decide) (fm_dec dtX1_read 5 rfl) ?_
  refine pv_invV2 (k := 23) (d' := (8 + 4 * (6 - 0))) (pc := 8) pcv_X1_31 (by decide) rfl (Nat.le_of_ble_eq_true rfl) (by decide) (fm_dec dtX1_read 6 rfl) ?_
  refine (xl_all 700).1 0 0 0 (fmI M 23 4 0) _ 0 hP0 rfl (by decide) hne0 ⟨fun M8 cs q8 e8 k8 => ?_, fun Mb kb ab eb hB => ?_⟩  
  · refine pv_then1 ?_
    refine pv_if_ne (pc := 11) 16 (by decide) (fm_dec dtX1_read 7 rfl) (fun _ => ?_) (fun hc11 => by exfalso; revert hc11; decide)
    have l8 := spL_len hS.2.2.2.1 _ _ _ _ _ _ (Nat.zero_le _) e8
    refine pv_aloadn (pc := 16) (n := 1) 1 rfl rfl (fm_dec dtX1_read 10 rfl) ?_
    refine pv_invV0 (k := 1) (d' := 0) (pc := 17) pcv_X1_35 (by decide) rfl (Nat.le_of_ble_eq_true rfl) (by decide) (fm_dec dtX1_read 11 rfl) ?_
    refine x_peek k8.1 k8.2.1 k8.2.2.1 (fun M17 v17 hv17 k17 => ?_)
    refine pv_then1 ?_
    refine pv_iconst (pc := 20) (v := (-1)) (by decide) (fm_dec dtX1_read 12 rfl) ?_
    refine pv_icmp_eq (pc := 21) 34 (by decide) (fm_dec dtX1_read 13 rfl) (fun hc21 => ?_) (fun hc21 => ?_)
    · refine pv_aloadn (pc := 34) (n := 0) 0 rfl rfl (fm_dec dtX1_read 20 rfl) ?_
      refine pv_getR (k := 23) (j := 1) (ci := 1) (pc := 35) 25 rfl (by decide) pfl_X1_15 (by decide) rfl (by decide) (fm_dec dtX1_read 21 rfl) ?_
      refine pv_iconst (pc := 38) (v := 0) (by decide) (fm_dec dtX1_read 22 rfl) ?_
      refine pv_aloadn (pc := 39) (n := 0) 0 rfl rfl (fm_dec dtX1_read 23 rfl) ?_
      refine pv_getR (k := 23) (j := 0) (ci := 1) (pc := 40) 24 rfl (by decide) pfl_X1_9 (by decide) rfl (by decide) (fm_dec dtX1_read 24 rfl) ?_
      refine pv_iconst (pc := 43) (v := 0) (by decide) (fm_dec dtX1_read 25 rfl) ?_
      refine pv_sipush (pc := 44) (v := 150) (by decide) (fm_dec dtX1_read 26 rfl) ?_
      refine pv_copy (k0 := 25) (k1 := 24) (n0 := 150) (n1 := 150) (pc := 47) pcm_X1_48 pcc_X1_48 (by decide) rfl rfl (by decide) rfl rfl (by decide) (by decide) (by decide) (by decide) (by decide) (Nat.le_of_ble_eq_true rfl) (fm_dec dtX1_read 27 rfl) ?_
      refine pv_aloadn (pc := 50) (n := 0) 0 rfl rfl (fm_dec dtX1_read 28 rfl) ?_
      refine pv_aloadn (pc := 51) (n := 0) 0 rfl rfl (fm_dec dtX1_read 29 rfl) ?_
      refine pv_getI (k := 23) (j := 4) (ci := 1) (pc := 52) pfl_X1_28 (by decide) rfl (by decide) (fm_dec dtX1_read 30 rfl) ?_
      refine pv_putI (k := 23) (j := 3) (ci := 1) (pc := 55) pfl_X1_24 (by decide) rfl (by decide) (fm_dec dtX1_read 31 rfl) ?_
      refine pv_iconst (pc := 58) (v := 1) (by decide) (fm_dec dtX1_read 32 rfl) ?_
      exact pv_zreturn (pc := 59) rfl (by first | exact Or.inr rfl | exact Or.inl rfl) (fm_dec dtX1_read 33 rfl) (hok _ cs (by unfold spLaw; rw [eS, e8]; simp only; rw [if_neg (by intro h9; have h8 := (hS.2.2.2.1.2.2 _ h9).1; rw [← hv17, hc21] at h8; exact absurd h8 (by decide))]) (lx_ok (k8.xd k17) (by have := l8.1; have := sp_ge (P := tB) (tx := tx) q8; unfold sk; omega) h150))
    · refine pv_aloadn (pc := 24) (n := 1) 1 rfl rfl (fm_dec dtX1_read 14 rfl) ?_
      refine pv_iconst (pc := 25) (v := 1) (by decide) (fm_dec dtX1_read 15 rfl) ?_
      refine pv_aloadn (pc := 26) (n := 1) 1 rfl rfl (fm_dec dtX1_read 16 rfl) ?_
      refine pv_getI (k := 1) (j := 3) (ci := 7) (pc := 27) pfl_X1_41 (by decide) rfl (by decide) (fm_dec dtX1_read 17 rfl) ?_
      refine pv_invV2 (k := 1) (d' := 0) (pc := 30) pcv_X1_44 (by decide) rfl (Nat.le_of_ble_eq_true rfl) (by decide) (fm_dec dtX1_read 18 rfl) ?_
      refine c_xfail0 k17.2.1 ?_
      refine pv_then1 ?_
      exact pv_zreturn (pc := 33) rfl (by first | exact Or.inr rfl | exact Or.inl rfl) (fm_dec dtX1_read 19 rfl) (hbad _ 1 (sk tx q8) (by unfold spLaw; rw [eS, e8]; simp only; rw [if_pos (by have h9 := k17.1.2.2.1; by_cases e9 : sk tx q8 = n; exfalso; exact hc21 (i32_ext (hv17.trans ((hS.2.2.2.1.2.1 _ (by omega)).trans (by decide)))); omega)]) (lx_bad ((k8.xd k17).xdb ⟨(show (1 : Int32).toInt = ((1 : Nat) : Int) by decide), k17.1.2.1, by decide, ((xdFr.refl _).set (Or.inr (Or.inl rfl))).set (Or.inr (Or.inr rfl)), xI_45 k17.2.2.2 (show (1 : Int32).toInt = ((1 : Nat) : Int) by decide) (by decide) k17.1.2.1 k17.1.2.2.1 k17.1.2.2.2.1.1⟩)))
  · refine pv_then1 ?_
    refine pv_if_ne (pc := 11) 16 (by decide) (fm_dec dtX1_read 7 rfl) (fun hc11 => by exfalso; revert hc11; decide) (fun _ => ?_)
    refine pv_iconst (pc := 14) (v := 0) (by decide) (fm_dec dtX1_read 8 rfl) ?_
    exact pv_zreturn (pc := 15) rfl (by first | exact Or.inr rfl | exact Or.inl rfl) (fm_dec dtX1_read 9 rfl) (hbad Mb kb ab (by unfold spLaw; rw [eS, eb]) (lx_bad hB))
set_option maxRecDepth 20000 in
theorem c_xforget {M : fmM} {Q : fmR → fmM → Prop}  (hq : Q (.inl none) (fmI M 34 5 0)) : pvGood Tx 0 qX3_forget [.ref 34] M Q := by
  refine pvGood_of (Nat.le_of_ble_eq_true rfl) ?_
  show pvEv Tx 0 qX3_forget 0 [some (.ref 34)] [] M Q
  refine pv_aloadn (pc := 0) (n := 0) 0 rfl rfl (fm_dec dtX3_forget 0 rfl) ?_
  refine pv_iconst (pc := 1) (v := 0) (by decide) (fm_dec dtX3_forget 1 rfl) ?_
  refine pv_putI (k := 34) (j := 5) (ci := 3) (pc := 2) pfl_X3_29 (by decide) rfl (by decide) (fm_dec dtX3_forget 2 rfl) ?_
  exact pv_return (pc := 5) rfl (fm_dec dtX3_forget 3 rfl) hq
theorem op_S {M : fmM} {tx : tX} {nn : Int32} {n : Nat} (hn : nn.toInt = (n : Int)) (ht : tOk tx n) (hb : ∀ i, i < n → bt (M.1 2 i) (tx i)) : xS2 (opM M nn) tx n 0 := ⟨hn, rfl, Nat.zero_le _, ht, hb⟩
/-- the text of n bytes, for every n -/
def txF (M : fmM) (T : Nat → tX) : Prop := ∀ n : Nat, (n : Int) ≤ (M.1 1 1).toInt → tOk (T n) n ∧ ∀ i, i < n → bt (M.1 2 i) (T n i)
set_option maxRecDepth 20000 in
theorem c_xlaw {M : fmM} {Q : fmR → fmM → Prop} {T : Nat → tX} {nn : Int32} (hI : scInv Tx invX M) (hT : txF M T) (hrf : ¬ txP nn 150 (M.1 1 1).toInt → Q (.inr fmIAE) (fmI M 0 16 (M.1 0 16 + 1))) (hok : ∀ (n : Nat) (M' : fmM) (cs : tC), nn.toInt = (n : Int) → txP nn 150 (M.1 1 1).toInt → spLaw (T n) n = .inr cs → lxOk (opM M nn) M' cs → Q (.inl (some (.int 1))) (fmI M' 34 5 0)) (hbad : ∀ (n k a : Nat) (M' : fmM) (r : Int32), nn.toInt = (n : Int) → txP nn 150 (M.1 1 1).toInt → spLaw (T n) n = .inl (k, a) → r.toInt = (k : Int) - 10 → xlBad (opM M nn) M' k a → Q (.inl (some (.int r))) M') : pvGood Tx 41 qX10_law [.ref 0, .int nn] M Q := by
  refine pvGood_of (Nat.le_of_ble_eq_true rfl) ?_
  show pvEv Tx 41 qX10_law 0 [some (.ref 0), some (.int nn)] [] M Q
  refine pv_aloadn (pc := 0) (n := 0) 0 rfl rfl (fm_dec dtX10_law 0 rfl) ?_
  refine pv_iloadn (pc := 1) (n := 1) 1 rfl rfl (fm_dec dtX10_law 1 rfl) ?_
  refine pv_sipush (pc := 2) (v := 150) (by decide) (fm_dec dtX10_law 2 rfl) ?_
  refine pv_invV2 (k := 0) (d' := 1) (pc := 5) pcv_X10_108 (by decide) rfl (Nat.le_of_ble_eq_true rfl) (by decide) (fm_dec dtX10_law 3 rfl) ?_
  refine c_openT (fun h5 => ?_) (fun h5 => ?_)
  · refine pv_then0 ?_
    have h515 : nn.toInt ≤ 150 := h5.2.1
    obtain ⟨n, hn⟩ : ∃ n : Nat, nn.toInt = (n : Int) := ⟨nn.toInt.toNat, by have := h5.1; omega⟩
    have hn150 : n ≤ 150 := (by omega)
    have hI5 := inv_open (n := nn) hI h5.1 (by omega)
    have hT9 := hT n (by have := h5.2.2; omega)
    have hS := op_S hn hT9.1 hT9.2
    have hf5 : (opM M nn).1 1 4 = 0 := rfl
    refine pv_aloadn (pc := 8) (n := 0) 0 rfl rfl (fm_dec dtX10_law 4 rfl) ?_
    refine pv_getR (k := 0) (j := 3) (ci := 10) (pc := 9) 23 rfl (by decide) pfl_X10_29 (by decide) rfl (by decide) (fm_dec dtX10_law 5 rfl) ?_
    refine pv_aloadn (pc := 12) (n := 0) 0 rfl rfl (fm_dec dtX10_law 6 rfl) ?_
    refine pv_getR (k := 0) (j := 0) (ci := 10) (pc := 13) 1 rfl (by decide) pfl_X10_12 (by decide) rfl (by decide) (fm_dec dtX10_law 7 rfl) ?_
    refine pv_invV1 (k := 23) (d' := 40) (pc := 16) pcv_X10_141 (by decide) rfl (Nat.le_of_ble_eq_true rfl) (by decide) (fm_dec dtX10_law 8 rfl) ?_
    refine c_xlread hS hf5 hI5 hn150 (fun M16 cs e16 k16 => ?_) (fun Mb kb ab eb hB => ?_)  
    · refine pv_then1 ?_
      refine pv_if_ne (pc := 19) 33 (by decide) (fm_dec dtX10_law 9 rfl) (fun _ => ?_) (fun hc19 => by exfalso; revert hc19; decide)
      refine pv_aloadn (pc := 33) (n := 0) 0 rfl rfl (fm_dec dtX10_law 16 rfl) ?_
      refine pv_getR (k := 0) (j := 7) (ci := 10) (pc := 34) 34 rfl (by decide) pfl_X10_61 (by decide) rfl (by decide) (fm_dec dtX10_law 17 rfl) ?_
      refine pv_invV0 (k := 34) (d' := 0) (pc := 37) pcv_X10_135 (by decide) rfl (Nat.le_of_ble_eq_true rfl) (by decide) (fm_dec dtX10_law 18 rfl) ?_
      refine c_xforget ?_
      refine pv_then0 ?_
      refine pv_iconst (pc := 40) (v := 1) (by decide) (fm_dec dtX10_law 19 rfl) ?_
      exact pv_ireturn (pc := 41) rfl (fm_dec dtX10_law 20 rfl) (hok n M16 cs hn h5 e16 k16)
    · refine pv_then1 ?_
      refine pv_if_ne (pc := 19) 33 (by decide) (fm_dec dtX10_law 9 rfl) (fun hc19 => by exfalso; revert hc19; decide) (fun _ => ?_)
      refine pv_aloadn (pc := 22) (n := 0) 0 rfl rfl (fm_dec dtX10_law 10 rfl) ?_
      refine pv_getR (k := 0) (j := 0) (ci := 10) (pc := 23) 1 rfl (by decide) pfl_X10_12 (by decide) rfl (by decide) (fm_dec dtX10_law 11 rfl) ?_
      refine pv_getI (k := 1) (j := 4) (ci := 7) (pc := 26) pfl_X10_116 (by decide) rfl (by decide) (fm_dec dtX10_law 12 rfl) ?_
      refine pv_bipush (pc := 29) (v := 10) (by decide) (fm_dec dtX10_law 13 rfl) ?_
      refine pv_isub (pc := 31) (fm_dec dtX10_law 14 rfl) ?_
      exact pv_ireturn (pc := 32) rfl (fm_dec dtX10_law 15 rfl) (hbad n kb ab Mb _ hn h5 eb (law_r hB.1 (by have h9 : (Mb.1 1 4).toInt ≤ 3 := (hB.2.2.2.1.1 1 4 (by decide)).2; have h8 := hB.1; omega)) hB)
  · refine pv_thenX ?_
    exact hrf h5
