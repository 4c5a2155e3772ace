-- P 18j
section
-- THE CLASS'S LAW, exactly
theorem spL_sk {tx : tX} {n p : Nat} (ht : tOk tx n) (hp : p ≤ n) : ∀ (f md o : Nat), md < 3 → spL tx f md o (sk tx p) = spL tx f md o p := by
  intro f
  induction f with
  | zero => intro md o _; rfl
  | succ f ih =>
    intro md o hm
    match md, hm with
    | 0, _ =>
      show spApp (spL tx f 1 o (sk tx p)) _ = spApp (spL tx f 1 o p) _
      rw [ih 1 o (by decide)]
    | 1, _ =>
      show spApp (spL tx f 2 o (sk tx p)) _ = spApp (spL tx f 2 o p) _
      rw [ih 2 o (by decide)]
    | 2, _ =>
      show spOne tx _ o (sk tx (sk tx p)) = spOne tx _ o (sk tx p)
      rw [sk_sk ht hp]
    | md + 3, h => omega
theorem fmA_kk {M : fmM} {k k' : Nat} {f : Nat → Int32} (h : k' ≠ k) : (fmA M k f).1 k' = M.1 k' := by simp [fmA, h]
theorem fmA_ss {M : fmM} {k : Nat} {f : Nat → Int32} : (fmA M k f).1 k = f := by simp [fmA]
theorem inv_A24 {M : fmM} {f : Nat → Int32} (hI : scInv Tx invX M) : scInv Tx invX (fmA M 24 f) := by
  refine ⟨fun k j hj => ?_, fun hm => absurd hm (by decide)⟩
  by_cases e : k = 24
  · subst e
    exact scq_t _
  · rw [fmA_kk e]
    exact hI.1 k j hj
/-- a law stands -/
def lxOk (M M' : fmM) (cs : tC) : Prop := (M'.1 23 3).toInt = (cs.length : Int) ∧ cs.length ≤ 150 ∧ (∀ i c, cs[i]? = some c → (M'.1 24 i).toInt = cdV c) ∧ scInv Tx invX M' ∧ (∀ k j, k ≠ 1 → k ≠ 23 → k ≠ 24 → k ≠ 25 → M'.1 k j = M.1 k j ∧ M'.2 k j = M.2 k j) ∧ (∀ j, j ≠ 3 → j ≠ 4 → j ≠ 5 → M'.1 1 j = M.1 1 j)
def lxM (M : fmM) : fmM := fmI (fmA M 24 (va_cpy (M.1 25) (M.1 24) 0 0 150)) 23 3 (M.1 23 4)
theorem lx_ok {M M1 : fmM} {tx : tX} {n q : Nat} {cs : tC} (k : xlOk (fmI M 23 4 0) M1 tx n q 0 cs) (hq : cs.length ≤ q) (hn : n ≤ 150) : lxOk M (lxM M1) cs := by
  have hl : cs.length ≤ 150 := by have := k.1.2.2.1; omega
  have e4 : (M1.1 23 4).toInt = (cs.length : Int) := by simpa using k.2.2.2.1
  refine ⟨?_, hl, fun i c hi => ?_, ?_, fun k' j a b c d => ⟨?_, ?_⟩, fun j a b c => ?_⟩
  · unfold lxM
    rw [fmI_s]
    exact e4
  · have h9 : i < cs.length := (List.getElem?_eq_some_iff.mp hi).1
    unfold lxM
    rw [fmI_k _ _ (by decide), fmA_ss, scq_cpy, if_pos (by omega)]
    have h8 := k.2.2.2.2.1 i c hi
    rw [Nat.zero_add] at h8
    exact h8
  · refine xInv.put (inv_A24 k.2.2.1) ⟨?_, ?_⟩
    · show (0 : Int) ≤ _
      omega
    · show _ ≤ (150 : Int)
      omega
  · unfold lxM
    rw [fmI_k _ _ b, fmA_kk c, k.2.2.2.2.2.1 k' j a (fun h => b h.1) (fun h => d h.1), fmI_k _ _ b]
  · show M1.2 k' j = _
    exact k.2.2.2.2.2.2.1 k' j a b d
  · unfold lxM
    rw [fmI_k _ _ (by decide), fmA_kk (by decide), k.2.2.2.2.2.2.2 j a b c, fmI_k _ _ (by decide)]
theorem lx_bad {M M1 : fmM} {k a : Nat} (h : xlBad (fmI M 23 4 0) M1 k a) : xlBad M M1 k a := ⟨h.1, h.2.1, h.2.2.1, h.2.2.2.1, ⟨fun k' j a b c => (h.2.2.2.2.1 k' j a b c).trans (by rw [fmI_at, if_neg b]), fun k' j a b c => h.2.2.2.2.2.1 k' j a b c, fun j a b c => (h.2.2.2.2.2.2 j a b c).trans (by rw [fmI_k _ _ (by decide)])⟩⟩
set_option maxRecDepth 20000 in
theorem c_xlread {M : fmM} {Q : fmR → fmM → Prop} {tx : tX} {n : Nat} (hS : xS2 M tx n 0) (hf : M.1 1 4 = 0) (hI : scInv Tx invX M) (h150 : n ≤ 150) (hok : ∀ (M' : fmM) (cs : tC), spLaw tx n = .inr cs → lxOk M M' cs → Q (.inl (some (.int 1))) M') (hbad : ∀ (M' : fmM) (k a : Nat), spLaw tx n = .inl (k, a) → xlBad M M' k a → Q (.inl (some (.int 0))) M') : pvGood Tx 40 qX1_read [.ref 23, .ref 1] M Q := by
  refine pvGood_of (Nat.le_of_ble_eq_true rfl) ?_
  show pvEv Tx 40 qX1_read 0 [some (.ref 23), some (.ref 1)] [] M Q
  have hP0 : xlPre (fmI M 23 4 0) tx n 0 0 := ⟨hS.of rfl rfl rfl, hf, xInv.put hI (by decide), rfl, Nat.le_refl _, h150⟩
  have hne0 : ¬ spL tx 700 0 0 0 = .inl (9, 0) := spL_fuel hS.2.2.2.1 700 0 0 0 (Nat.zero_le _) (by have h9 : spFu 0 ≤ 10 := (by decide); omega)
  have eS : spL tx 700 0 0 (sk tx 0) = spL tx 700 0 0 0 := spL_sk hS.2.2.2.1 (Nat.zero_le _) 700 0 0 (by decide)
  refine pv_aloadn (pc := 0) (n := 0) 0 rfl rfl (fm_dec dtX1_read 0 rfl) ?_
  refine pv_iconst (pc := 1) (v := 0) (by decide) (fm_dec dtX1_read 1 rfl) ?_
  refine pv_putI (k := 23) (j := 4) (ci := 1) (pc := 2) pfl_X1_28 (by decide) rfl (by decide) (fm_dec dtX1_read 2 rfl) ?_
  refine pv_aloadn (pc := 5) (n := 0) 0 rfl rfl (fm_dec dtX1_read 3 rfl) ?_
  refine pv_aloadn (pc := 6) (n := 1) 1 rfl rfl (fm_dec dtX1_read 4 rfl) ?_
  refine pv_iconst (pc := 7) (v := 0) (by decide) (fm_dec dtX1_read 5 rfl) ?_
  refine pv_invV2 (k := 23) (d' := (8 + 4 * (6 - 0))) (pc := 8) pcv_X1_31 (by decide) rfl (Nat.le_of_ble_eq_true rfl) (by decide) (fm_dec dtX1_read 6 rfl) ?_
  refine (xl_all 700).1 0 0 0 (fmI M 23 4 0) _ 0 hP0 rfl (by decide) hne0 ⟨fun M8 cs q8 e8 k8 => ?_, fun Mb kb ab eb hB => ?_⟩  
  · refine pv_then1 ?_
    refine pv_if_ne (pc := 11) 16 (by decide) (fm_dec dtX1_read 7 rfl) (fun _ => ?_) (fun hc11 => by exfalso; revert hc11; decide)
    have l8 := spL_len hS.2.2.2.1 _ _ _ _ _ _ (Nat.zero_le _) e8
    refine pv_aloadn (pc := 16) (n := 1) 1 rfl rfl (fm_dec dtX1_read 10 rfl) ?_
    refine pv_invV0 (k := 1) (d' := 0) (pc := 17) pcv_X1_35 (by decide) rfl (Nat.le_of_ble_eq_true rfl) (by decide) (fm_dec dtX1_read 11 rfl) ?_
    refine x_peek k8.1 k8.2.1 k8.2.2.1 (fun M17 v17 hv17 k17 => ?_)
    refine pv_then1 ?_
    refine pv_iconst (pc := 20) (v := (-1)) (by decide) (fm_dec dtX1_read 12 rfl) ?_
    refine pv_icmp_eq (pc := 21) 34 (by decide) (fm_dec dtX1_read 13 rfl) (fun hc21 => ?_) (fun hc21 => ?_)
    · refine pv_aloadn (pc := 34) (n := 0) 0 rfl rfl (fm_dec dtX1_read 20 rfl) ?_
      refine pv_getR (k := 23) (j := 1) (ci := 1) (pc := 35) 25 rfl (by decide) pfl_X1_15 (by decide) rfl (by decide) (fm_dec dtX1_read 21 rfl) ?_
      refine pv_iconst (pc := 38) (v := 0) (by decide) (fm_dec dtX1_read 22 rfl) ?_
      refine pv_aloadn (pc := 39) (n := 0) 0 rfl rfl (fm_dec dtX1_read 23 rfl) ?_
      refine pv_getR (k := 23) (j := 0) (ci := 1) (pc := 40) 24 rfl (by decide) pfl_X1_9 (by decide) rfl (by decide) (fm_dec dtX1_read 24 rfl) ?_
      refine pv_iconst (pc := 43) (v := 0) (by decide) (fm_dec dtX1_read 25 rfl) ?_
      refine pv_sipush (pc := 44) (v := 150) (by decide) (fm_dec dtX1_read 26 rfl) ?_
      refine pv_copy (k0 := 25) (k1 := 24) (n0 := 150) (n1 := 150) (pc := 47) pcm_X1_48 pcc_X1_48 (by decide) rfl rfl (by decide) rfl rfl (by decide) (by decide) (by decide) (by decide) (by decide) (Nat.le_of_ble_eq_true rfl) (fm_dec dtX1_read 27 rfl) ?_
      refine pv_aloadn (pc := 50) (n := 0) 0 rfl rfl (fm_dec dtX1_read 28 rfl) ?_
      refine pv_aloadn (pc := 51) (n := 0) 0 rfl rfl (fm_dec dtX1_read 29 rfl) ?_
      refine pv_getI (k := 23) (j := 4) (ci := 1) (pc := 52) pfl_X1_28 (by decide) rfl (by decide) (fm_dec dtX1_read 30 rfl) ?_
      refine pv_putI (k := 23) (j := 3) (ci := 1) (pc := 55) pfl_X1_24 (by decide) rfl (by decide) (fm_dec dtX1_read 31 rfl) ?_
      refine pv_iconst (pc := 58) (v := 1) (by decide) (fm_dec dtX1_read 32 rfl) ?_
      exact pv_zreturn (pc := 59) rfl (by first | exact Or.inr rfl | exact Or.inl rfl) (fm_dec dtX1_read 33 rfl) (hok _ cs (by unfold spLaw; rw [eS, e8]; simp only; rw [if_neg (by intro h9; have h8 := (hS.2.2.2.1.2.2 _ h9).1; rw [← hv17, hc21] at h8; exact absurd h8 (by decide))]) (lx_ok (k8.xd k17) (by have := l8.1; have := sp_ge (P := tB) (tx := tx) q8; unfold sk; omega) h150))
    · refine pv_aloadn (pc := 24) (n := 1) 1 rfl rfl (fm_dec dtX1_read 14 rfl) ?_
      refine pv_iconst (pc := 25) (v := 1) (by decide) (fm_dec dtX1_read 15 rfl) ?_
      refine pv_aloadn (pc := 26) (n := 1) 1 rfl rfl (fm_dec dtX1_read 16 rfl) ?_
      refine pv_getI (k := 1) (j := 3) (ci := 7) (pc := 27) pfl_X1_41 (by decide) rfl (by decide) (fm_dec dtX1_read 17 rfl) ?_
      refine pv_invV2 (k := 1) (d' := 0) (pc := 30) pcv_X1_44 (by decide) rfl (Nat.le_of_ble_eq_true rfl) (by decide) (fm_dec dtX1_read 18 rfl) ?_
      refine c_xfail0 k17.2.1 ?_
      refine pv_then1 ?_
      exact pv_zreturn (pc := 33) rfl (by first | exact Or.inr rfl | exact Or.inl rfl) (fm_dec dtX1_read 19 rfl) (hbad _ 1 (sk tx q8) (by unfold spLaw; rw [eS, e8]; simp only; rw [if_pos (by have h9 := k17.1.2.2.1; by_cases e9 : sk tx q8 = n; exfalso; exact hc21 (i32_ext (hv17.trans ((hS.2.2.2.1.2.1 _ (by omega)).trans (by decide)))); omega)]) (lx_bad ((k8.xd k17).xdb ⟨(show (1 : Int32).toInt = ((1 : Nat) : Int) by decide), k17.1.2.1, by decide, ((xdFr.refl _).set (Or.inr (Or.inl rfl))).set (Or.inr (Or.inr rfl)), xI_45 k17.2.2.2 (show (1 : Int32).toInt = ((1 : Nat) : Int) by decide) (by decide) k17.1.2.1 k17.1.2.2.1 k17.1.2.2.2.1.1⟩)))
  · refine pv_then1 ?_
    refine pv_if_ne (pc := 11) 16 (by decide) (fm_dec dtX1_read 7 rfl) (fun hc11 => by exfalso; revert hc11; decide) (fun _ => ?_)
    refine pv_iconst (pc := 14) (v := 0) (by decide) (fm_dec dtX1_read 8 rfl) ?_
    exact pv_zreturn (pc := 15) rfl (by first | exact Or.inr rfl | exact Or.inl rfl) (fm_dec dtX1_read 9 rfl) (hbad Mb kb ab (by unfold spLaw; rw [eS, eb]) (lx_bad hB))
set_option maxRecDepth 20000 in
theorem c_xforget {M : fmM} {Q : fmR → fmM → Prop}  (hq : Q (.inl none) (fmI M 34 5 0)) : pvGood Tx 0 qX3_forget [.ref 34] M Q := by
  refine pvGood_of (Nat.le_of_ble_eq_true rfl) ?_
  show pvEv Tx 0 qX3_forget 0 [some (.ref 34)] [] M Q
  refine pv_aloadn (pc := 0) (n := 0) 0 rfl rfl (fm_dec dtX3_forget 0 rfl) ?_
  refine pv_iconst (pc := 1) (v := 0) (by decide) (fm_dec dtX3_forget 1 rfl) ?_
  refine pv_putI (k := 34) (j := 5) (ci := 3) (pc := 2) pfl_X3_29 (by decide) rfl (by decide) (fm_dec dtX3_forget 2 rfl) ?_
  exact pv_return (pc := 5) rfl (fm_dec dtX3_forget 3 rfl) hq
theorem op_S {M : fmM} {tx : tX} {nn : Int32} {n : Nat} (hn : nn.toInt = (n : Int)) (ht : tOk tx n) (hb : ∀ i, i < n → bt (M.1 2 i) (tx i)) : xS2 (opM M nn) tx n 0 := ⟨hn, rfl, Nat.zero_le _, ht, hb⟩
/-- the text of n bytes, for every n -/
def txF (M : fmM) (T : Nat → tX) : Prop := ∀ n : Nat, (n : Int) ≤ (M.1 1 1).toInt → tOk (T n) n ∧ ∀ i, i < n → bt (M.1 2 i) (T n i)
set_option maxRecDepth 20000 in
theorem c_xlaw {M : fmM} {Q : fmR → fmM → Prop} {T : Nat → tX} {nn : Int32} (hI : scInv Tx invX M) (hT : txF M T) (hrf : ¬ txP nn 150 (M.1 1 1).toInt → Q (.inr fmIAE) (fmI M 0 16 (M.1 0 16 + 1))) (hok : ∀ (n : Nat) (M' : fmM) (cs : tC), nn.toInt = (n : Int) → txP nn 150 (M.1 1 1).toInt → spLaw (T n) n = .inr cs → lxOk (opM M nn) M' cs → Q (.inl (some (.int 1))) (fmI M' 34 5 0)) (hbad : ∀ (n k a : Nat) (M' : fmM) (r : Int32), nn.toInt = (n : Int) → txP nn 150 (M.1 1 1).toInt → spLaw (T n) n = .inl (k, a) → r.toInt = (k : Int) - 10 → xlBad (opM M nn) M' k a → Q (.inl (some (.int r))) M') : pvGood Tx 41 qX10_law [.ref 0, .int nn] M Q := by
  refine pvGood_of (Nat.le_of_ble_eq_true rfl) ?_
  show pvEv Tx 41 qX10_law 0 [some (.ref 0), some (.int nn)] [] M Q
  refine pv_aloadn (pc := 0) (n := 0) 0 rfl rfl (fm_dec dtX10_law 0 rfl) ?_
  refine pv_iloadn (pc := 1) (n := 1) 1 rfl rfl (fm_dec dtX10_law 1 rfl) ?_
  refine pv_sipush (pc := 2) (v := 150) (by decide) (fm_dec dtX10_law 2 rfl) ?_
  refine pv_invV2 (k := 0) (d' := 1) (pc := 5) pcv_X10_108 (by decide) rfl (Nat.le_of_ble_eq_true rfl) (by decide) (fm_dec dtX10_law 3 rfl) ?_
  refine c_openT (fun h5 => ?_) (fun h5 => ?_)
  · refine pv_then0 ?_
    have h515 : nn.toInt ≤ 150 := h5.2.1
    obtain ⟨n, hn⟩ : ∃ n : Nat, nn.toInt = (n : Int) := ⟨nn.toInt.toNat, by have := h5.1; omega⟩
    have hn150 : n ≤ 150 := (by omega)
    have hI5 := inv_open (n := nn) hI h5.1 (by omega)
    have hT9 := hT n (by have := h5.2.2; omega)
    have hS := op_S hn hT9.1 hT9.2
    have hf5 : (opM M nn).1 1 4 = 0 := rfl
    refine pv_aloadn (pc := 8) (n := 0) 0 rfl rfl (fm_dec dtX10_law 4 rfl) ?_
    refine pv_getR (k := 0) (j := 3) (ci := 10) (pc := 9) 23 rfl (by decide) pfl_X10_29 (by decide) rfl (by decide) (fm_dec dtX10_law 5 rfl) ?_
    refine pv_aloadn (pc := 12) (n := 0) 0 rfl rfl (fm_dec dtX10_law 6 rfl) ?_
    refine pv_getR (k := 0) (j := 0) (ci := 10) (pc := 13) 1 rfl (by decide) pfl_X10_12 (by decide) rfl (by decide) (fm_dec dtX10_law 7 rfl) ?_
    refine pv_invV1 (k := 23) (d' := 40) (pc := 16) pcv_X10_141 (by decide) rfl (Nat.le_of_ble_eq_true rfl) (by decide) (fm_dec dtX10_law 8 rfl) ?_
    refine c_xlread hS hf5 hI5 hn150 (fun M16 cs e16 k16 => ?_) (fun Mb kb ab eb hB => ?_)  
    · refine pv_then1 ?_
      refine pv_if_ne (pc := 19) 33 (by decide) (fm_dec dtX10_law 9 rfl) (fun _ => ?_) (fun hc19 => by exfalso; revert hc19; decide)
      refine pv_aloadn (pc := 33) (n := 0) 0 rfl rfl (fm_dec dtX10_law 16 rfl) ?_
      refine pv_getR (k := 0) (j := 7) (ci := 10) (pc := 34) 34 rfl (by decide) pfl_X10_61 (by decide) rfl (by decide) (fm_dec dtX10_law 17 rfl) ?_
      refine pv_invV0 (k := 34) (d' := 0) (pc := 37) pcv_X10_135 (by decide) rfl (Nat.le_of_ble_eq_true rfl) (by decide) (fm_dec dtX10_law 18 rfl) ?_
      refine c_xforget ?_
      refine pv_then0 ?_
      refine pv_iconst (pc := 40) (v := 1) (by decide) (fm_dec dtX10_law 19 rfl) ?_
      exact pv_ireturn (pc := 41) rfl (fm_dec dtX10_law 20 rfl) (hok n M16 cs hn h5 e16 k16)
    · refine pv_then1 ?_
      refine pv_if_ne (pc := 19) 33 (by decide) (fm_dec dtX10_law 9 rfl) (fun hc19 => by exfalso; revert hc19; decide) (fun _ => ?_)
      refine pv_aloadn (pc := 22) (n := 0) 0 rfl rfl (fm_dec dtX10_law 10 rfl) ?_
      refine pv_getR (k := 0) (j := 0) (ci := 10) (pc := 23) 1 rfl (by decide) pfl_X10_12 (by decide) rfl (by decide) (fm_dec dtX10_law 11 rfl) ?_
      refine pv_getI (k := 1) (j := 4) (ci := 7) (pc := 26) pfl_X10_116 (by decide) rfl (by decide) (fm_dec dtX10_law 12 rfl) ?_
      refine pv_bipush (pc := 29) (v := 10) (by decide) (fm_dec dtX10_law 13 rfl) ?_
      refine pv_isub (pc := 31) (fm_dec dtX10_law 14 rfl) ?_
      exact pv_ireturn (pc := 32) rfl (fm_dec dtX10_law 15 rfl) (hbad n kb ab Mb _ hn h5 eb (law_r hB.1 (by have h9 : (Mb.1 1 4).toInt ≤ 3 := (hB.2.2.2.1.1 1 4 (by decide)).2; have h8 := hB.1; omega)) hB)
  · refine pv_thenX ?_
    exact hrf h5
end
-- P 18k
section
-- THE CLASS READS A PAGE
def pgOne (ls : tC) (k : Nat) : Bool := ls.any (fun l => Nat.beq l.1 k && Nat.beq l.2 1)
theorem or6b : ∀ u, u < 64 → ∀ k, k < 6 → ∀ b, b < 2 → (nI u ||| (nI b) <<< (nI k &&& 31)) = nI (u ||| b <<< k) ∧ u ||| b <<< k < 64 := by decide +kernel
theorem bit6b : ∀ u, u < 64 → ∀ k, k < 6 → ∀ b, b < 2 → ∀ j, j < 6 → (u ||| b <<< k).testBit j = (u.testBit j || (Nat.beq k j && Nat.beq b 1)) := by decide +kernel
theorem has6z : ∀ w, w < 64 → ∀ k, k < 6 → ((nI w >>> (nI k &&& 31) &&& 1) = (0 : Int32) ↔ w.testBit k = false) := by decide +kernel
/-- lines read so far, on this side -/
def xpI (ls : tC) (seen bits i : Int32) (w u : Nat) : Prop := i.toInt = (ls.length : Int) ∧ seen = nI w ∧ w < 64 ∧ ls.length = pop6 w ∧ (∀ k, k < 6 → w.testBit k = pgHas ls k) ∧ bits = nI u ∧ u < 64 ∧ (∀ k, k < 6 → u.testBit k = pgOne ls k) ∧ (∀ l ∈ ls, l.1 < 6 ∧ l.2 ≤ 1)
theorem xpI.add {ls : tC} {seen bits i kk bb : Int32} {w u k b : Nat} (h : xpI ls seen bits i w u) (hk : kk.toInt = k) (hb : bb.toInt = b) (hk6 : k < 6) (hb1 : b < 2) (hn : w.testBit k = false) : xpI (ls ++ [(k, b)]) (seen ||| 1 <<< (kk &&& 31)) (bits ||| bb <<< (kk &&& 31)) (i + 1) (w ||| 1 <<< k) (u ||| b <<< k) := by
  obtain ⟨h1, h2, h3, h4, h5, h6, h7, h8, h9⟩ := h
  have p1 := pop6_le w h3
  have p2 := pop6_add w h3 k hk6 hn
  refine ⟨?_, ?_, p2.2, ?_, fun j hj => ?_, ?_, (or6b u h7 k hk6 b hb1).2, fun j hj => ?_, fun l hl => ?_⟩
  · rw [i32_p1 h1 (by omega)]
    simp
  · rw [h2, nI_is hk (by omega), or6 w h3 k hk6]
  · rw [p2.1, ← h4]
    simp
  · rw [bit6 w h3 k hk6 j hj, h5 j hj]
    simp [pgHas]
  · rw [h6, nI_is hk (by omega), nI_is hb (by omega), (or6b u h7 k hk6 b hb1).1]
  · rw [bit6b u h7 k hk6 b hb1 j hj, h8 j hj]
    simp [pgOne]
  · rcases List.mem_append.mp hl with h | h
    · exact h9 l h
    · rw [List.mem_singleton.mp h]
      exact ⟨hk6, by omega⟩
/-- what stands behind a good page -/
def xpEnd (M M' : fmM) (ls : tC) : Prop := (M'.1 27 0).toInt = (ls.length : Int) ∧ ls.length ≤ 6 ∧ (∃ w u : Nat, M'.1 27 1 = nI w ∧ M'.1 27 2 = nI u ∧ w < 64 ∧ u < 64 ∧ ls.length = pop6 w ∧ (∀ k, k < 6 → w.testBit k = pgHas ls k) ∧ (∀ k, k < 6 → u.testBit k = pgOne ls k)) ∧ (∀ l ∈ ls, l.1 < 6 ∧ l.2 ≤ 1) ∧ (∀ k j, k ≠ 1 → k ≠ 27 → M'.1 k j = M.1 k j ∧ M'.2 k j = M.2 k j) ∧ (∀ j, j ≠ 3 → j ≠ 4 → j ≠ 5 → M'.1 1 j = M.1 1 j) ∧ M'.1 1 4 = 0 ∧ scInv Tx invX M'

theorem s_numF1 {M : fmM} {Q : fmR → fmM → Prop} {x1 : Int32} (bx1 : 0 ≤ x1.toInt ∧ x1.toInt ≤ 0) {x2 : Int32} (bx2 : 1 ≤ x2.toInt ∧ x2.toInt ≤ 1) (f1_4 : 1 ≤ (M.1 1 4).toInt ∧ (M.1 1 4).toInt ≤ 3) (hI : scInv Tx invX M) (q0 : ∀ (n : Int32) (M' : fmM), (0 ≤ n.toInt ∧ n.toInt ≤ 1) → (1 ≤ (M'.1 1 4).toInt ∧ (M'.1 1 4).toInt ≤ 3) → scInv Tx invX M' → scFr [(1, 3, 1)] M M' → Q (.inl (some (.int n))) M') (q1 : ∀ (n : Int32) (M' : fmM), ((-1) ≤ n.toInt ∧ n.toInt ≤ (-1)) → (1 ≤ (M'.1 1 4).toInt ∧ (M'.1 1 4).toInt ≤ 3) → scInv Tx invX M' → scFr [(1, 3, 1)] M M' → Q (.inl (some (.int n))) M') : pvGood Tx 2 qX7_takeNumber [.ref 1, .int x1, .int x2] M Q := (hh_X7_takeNumber_19 M [x1.toInt, x2.toInt, (M.1 1 4).toInt] [.ref 1, .int x1, .int x2] (scEk.c1 bx1 (scEk.c1 bx2 (scEk.c1 f1_4 scEk.n0))) ⟨⟨1, by simp, rfl⟩, ⟨x1, rfl, scEv.at rfl⟩, ⟨x2, rfl, scEv.at rfl⟩, trivial⟩ (fun f hf => by rw [List.mem_singleton.mp hf]; exact scEv.at rfl) hI).imp (fun r M' h => by
  obtain ⟨⟨o, ho, hr, hf9, hm⟩, h1, h2⟩ := h
  rcases List.mem_cons.mp ho with rfl | ho
  · obtain ⟨n, rfl, c1, c2⟩ := hr; exact q0 n M' ⟨c1, c2⟩ (have h9 := hm _ List.mem_cons_self; h9) h1 h2
  rcases List.mem_cons.mp ho with rfl | ho
  · obtain ⟨n, rfl, c1, c2⟩ := hr; exact q1 n M' ⟨c1, c2⟩ (have h9 := hm _ List.mem_cons_self; h9) h1 h2
  · cases ho)
set_option maxRecDepth 20000 in
theorem x_signF {M : fmM} {Q : fmR → fmM → Prop} {c : Int32} (hc : 0 ≤ c.toInt) (hI : scInv Tx invX M) (hf : ¬ M.1 1 4 = 0) (hq : ∀ (M' : fmM) (w : Int32), scFr [(1, 3, 1)] M M' → scInv Tx invX M' → Q (.inl (some (.int w))) M') : pvGood Tx 1 qX7_takeSign [.ref 1, .int c] M Q := by
  refine pvGood_of (Nat.le_of_ble_eq_true rfl) ?_
  show pvEv Tx 1 qX7_takeSign 0 [some (.ref 1), some (.int c)] [] M Q
  refine pv_aloadn (pc := 0) (n := 0) 0 rfl rfl (fm_dec dtX7_takeSign 0 rfl) ?_
  refine pv_invV0 (k := 1) (d' := 0) (pc := 1) pcv_X7_31 (by decide) rfl (Nat.le_of_ble_eq_true rfl) (by decide) (fm_dec dtX7_takeSign 1 rfl) ?_
  refine s_peek hI (fun n1 M1 b1 m1 hI1 f1 => ?_) (fun n1 M1 b1 m1 hI1 f1 => ?_)
  · refine pv_then1 ?_
    refine pv_iloadn (pc := 4) (n := 1) 1 rfl rfl (fm_dec dtX7_takeSign 2 rfl) ?_
    refine pv_icmp_eq (pc := 5) 18 (by decide) (fm_dec dtX7_takeSign 3 rfl) (fun hc5 => ?_) (fun hc5 => ?_)
    · refine pv_aloadn (pc := 18) (n := 0) 0 rfl rfl (fm_dec dtX7_takeSign 10 rfl) ?_
      refine pv_dup (pc := 19) rfl (fm_dec dtX7_takeSign 11 rfl) ?_
      refine pv_getI (k := 1) (j := 3) (ci := 7) (pc := 20) pfl_X7_25 (by decide) rfl (by decide) (fm_dec dtX7_takeSign 12 rfl) ?_
      refine pv_iconst (pc := 23) (v := 1) (by decide) (fm_dec dtX7_takeSign 13 rfl) ?_
      refine pv_iadd (pc := 24) (fm_dec dtX7_takeSign 14 rfl) ?_
      refine pv_putI (k := 1) (j := 3) (ci := 7) (pc := 25) pfl_X7_25 (by decide) rfl (by decide) (fm_dec dtX7_takeSign 15 rfl) ?_
      refine pv_iconst (pc := 28) (v := 1) (by decide) (fm_dec dtX7_takeSign 16 rfl) ?_
      exact pv_zreturn (pc := 29) rfl (by first | exact Or.inr rfl | exact Or.inl rfl) (fm_dec dtX7_takeSign 17 rfl) (hq _ 1 (f1.toI rfl) (xI_3 hI1 (q := (M1.1 1 3).toInt.toNat + 1) (n := 600) (i32_p1 (by omega) (by omega)) (by omega) (by decide)))
    · refine pv_aloadn (pc := 8) (n := 0) 0 rfl rfl (fm_dec dtX7_takeSign 4 rfl) ?_
      refine pv_iconst (pc := 9) (v := 1) (by decide) (fm_dec dtX7_takeSign 5 rfl) ?_
      refine pv_aloadn (pc := 10) (n := 0) 0 rfl rfl (fm_dec dtX7_takeSign 6 rfl) ?_
      refine pv_getI (k := 1) (j := 3) (ci := 7) (pc := 11) pfl_X7_25 (by decide) rfl (by decide) (fm_dec dtX7_takeSign 7 rfl) ?_
      refine pv_invV2 (k := 1) (d' := 0) (pc := 14) pcv_X7_35 (by decide) rfl (Nat.le_of_ble_eq_true rfl) (by decide) (fm_dec dtX7_takeSign 8 rfl) ?_
      refine c_xfail1 (by rw [(f1 1 4 rfl).1]; exact hf) ?_
      refine pv_then1 ?_
      exact pv_zreturn (pc := 17) rfl (by first | exact Or.inr rfl | exact Or.inl rfl) (fm_dec dtX7_takeSign 9 rfl) (hq _ 0 f1 hI1)
  · refine pv_then1 ?_
    refine pv_iloadn (pc := 4) (n := 1) 1 rfl rfl (fm_dec dtX7_takeSign 2 rfl) ?_
    refine pv_icmp_eq (pc := 5) 18 (by decide) (fm_dec dtX7_takeSign 3 rfl) (fun hc5 => by exfalso; subst hc5; omega) (fun _ => ?_)
    refine pv_aloadn (pc := 8) (n := 0) 0 rfl rfl (fm_dec dtX7_takeSign 4 rfl) ?_
    refine pv_iconst (pc := 9) (v := 1) (by decide) (fm_dec dtX7_takeSign 5 rfl) ?_
    refine pv_aloadn (pc := 10) (n := 0) 0 rfl rfl (fm_dec dtX7_takeSign 6 rfl) ?_
    refine pv_getI (k := 1) (j := 3) (ci := 7) (pc := 11) pfl_X7_25 (by decide) rfl (by decide) (fm_dec dtX7_takeSign 7 rfl) ?_
    refine pv_invV2 (k := 1) (d' := 0) (pc := 14) pcv_X7_35 (by decide) rfl (Nat.le_of_ble_eq_true rfl) (by decide) (fm_dec dtX7_takeSign 8 rfl) ?_
    refine c_xfail1 (by rw [(f1 1 4 rfl).1]; exact hf) ?_
    refine pv_then1 ?_
    exact pv_zreturn (pc := 17) rfl (by first | exact Or.inr rfl | exact Or.inl rfl) (fm_dec dtX7_takeSign 9 rfl) (hq _ 0 f1 hI1)
set_option maxRecDepth 20000 in
theorem xp_f73 {Q : fmR → fmM → Prop} {M0 M : fmM} {k a : Nat} {v2 v3 v4 v5 v6 v7 : Option Value} (b74 : xdBad M0 M k a) (hq : ∀ M2 : fmM, xdBad M0 M2 k a → Q (.inl (some (.int 0))) M2) : pvEv Tx 3 qX2_read 73 [some (.ref 27), some (.ref 1), v2, v3, v4, v5, v6, v7] [] M Q := by
  refine pv_aloadn (pc := 73) (n := 1) 1 rfl rfl (fm_dec dtX2_read 43 rfl) ?_
  refine pv_invV0 (k := 1) (d' := 0) (pc := 74) pcv_X2_42 (by decide) rfl (Nat.le_of_ble_eq_true rfl) (by decide) (fm_dec dtX2_read 44 rfl) ?_
  refine c_xfailed (fun h9 => absurd h9 b74.nz) (fun _ => ?_) 
  refine pv_then1 ?_
  refine pv_if_eq (pc := 77) 82 (by decide) (fm_dec dtX2_read 45 rfl) (fun hc77 => by exfalso; revert hc77; decide) (fun _ => ?_)
  refine pv_iconst (pc := 80) (v := 0) (by decide) (fm_dec dtX2_read 46 rfl) ?_
  exact pv_zreturn (pc := 81) rfl (by first | exact Or.inr rfl | exact Or.inl rfl) (fm_dec dtX2_read 47 rfl) (hq _ b74)
set_option maxRecDepth 20000 in
theorem xp_f66 {Q : fmR → fmM → Prop} {M0 M : fmM} {k a : Nat} {v2 v3 v4 v5 v6 v7 : Option Value} (b69 : xdBad M0 M k a) (hq : ∀ M2 : fmM, xdBad M0 M2 k a → Q (.inl (some (.int 0))) M2) : pvEv Tx 3 qX2_read 66 [some (.ref 27), some (.ref 1), v2, v3, v4, v5, v6, v7] [] M Q := by
  refine pv_aloadn (pc := 66) (n := 1) 1 rfl rfl (fm_dec dtX2_read 39 rfl) ?_
  refine pv_bipush (pc := 67) (v := 59) (by decide) (fm_dec dtX2_read 40 rfl) ?_
  refine pv_invV1 (k := 1) (d' := 1) (pc := 69) pcv_X2_38 (by decide) rfl (Nat.le_of_ble_eq_true rfl) (by decide) (fm_dec dtX2_read 41 rfl) ?_
  refine x_signF (by decide) b69.2.2.2.2 b69.nz (fun M69 w69 f69 hI69 => ?_) 
  refine pv_then1 ?_
  refine pv_pop (pc := 72) rfl (fm_dec dtX2_read 42 rfl) ?_
  exact xp_f73 (b69.go f69 hI69) hq
set_option maxRecDepth 20000 in
theorem xp_f58 {Q : fmR → fmM → Prop} {M0 M : fmM} {k a : Nat} {x6 : Int32} {v2 v3 v4 v5 v7 : Option Value} (b61 : xdBad M0 M k a) (hq : ∀ M2 : fmM, xdBad M0 M2 k a → Q (.inl (some (.int 0))) M2) : pvEv Tx 3 qX2_read 58 [some (.ref 27), some (.ref 1), v2, v3, v4, v5, some (.int x6), v7] [] M Q := by
  refine pv_aloadn (pc := 58) (n := 1) 1 rfl rfl (fm_dec dtX2_read 34 rfl) ?_
  refine pv_iconst (pc := 59) (v := 0) (by decide) (fm_dec dtX2_read 35 rfl) ?_
  refine pv_iconst (pc := 60) (v := 1) (by decide) (fm_dec dtX2_read 36 rfl) ?_
  refine pv_invV2 (k := 1) (d' := 2) (pc := 61) pcv_X2_30 (by decide) rfl (Nat.le_of_ble_eq_true rfl) (by decide) (fm_dec dtX2_read 37 rfl) ?_
  refine s_numF1 (by decide) (by decide) b61.f13 b61.2.2.2.2 (fun n61 M61 c61 m61 hI61 f61 => ?_) (fun n61 M61 c61 m61 hI61 f61 => ?_)  
  · refine pv_then1 ?_
    refine pv_istore (pc := 64) (i := 7) (by decide) rfl (fm_dec dtX2_read 38 rfl) ?_
    dsimp only [List.set_cons_zero, List.set_cons_succ]
    exact xp_f66 (b61.go f61 hI61) hq
  · refine pv_then1 ?_
    refine pv_istore (pc := 64) (i := 7) (by decide) rfl (fm_dec dtX2_read 38 rfl) ?_
    dsimp only [List.set_cons_zero, List.set_cons_succ]
    exact xp_f66 (b61.go f61 hI61) hq
def ush (x z : Int32) : Int32 := (x.toUInt32 >>> (z.toUInt32 &&& Int32.toUInt32 31)).toInt32
def bcF1 (x : Int32) : Int32 := x - (ush x 1 &&& 1431655765)
def bcF2 (x : Int32) : Int32 := (x &&& 858993459) + (ush x 2 &&& 858993459)
def bcF3 (x : Int32) : Int32 := x + ush x 4 &&& 252645135
def bcF4 (x : Int32) : Int32 := x + ush x 8
def bcF5 (x : Int32) : Int32 := x + ush x 16 
def bcF (x : Int32) : Int32 := bcF5 (bcF4 (bcF3 (bcF2 (bcF1 x)))) &&& 63
theorem bc6 : ∀ w, w < 64 → bcF (nI w) = nI (pop6 w) := by decide +kernel
theorem pkc_J6_265 : pvKc RJ6 265 = some (265, .inl 1431655765) := by unfold pvKc; rw [pvK_12]; rfl
theorem pkc_J6_266 : pvKc RJ6 266 = some (266, .inl 858993459) := by unfold pvKc; rw [pvK_12]; rfl
theorem pkc_J6_267 : pvKc RJ6 267 = some (267, .inl 252645135) := by unfold pvKc; rw [pvK_12]; rfl
set_option maxRecDepth 20000 in
theorem c_bits {M : fmM} {Q : fmR → fmM → Prop} {x : Int32} (hq : Q (.inl (some (.int (bcF x)))) M) : pvGood Tx 0 qJ6_bitCount_0f7a4 [.int x] M Q := by
  refine pvGood_of (Nat.le_of_ble_eq_true rfl) ?_
  show pvEv Tx 0 qJ6_bitCount_0f7a4 0 [some (.int x)] [] M Q
  refine pv_iloadn (pc := 0) (n := 0) 0 rfl rfl (fm_dec dtJ6_bitCount_0f7a4 0 rfl) ?_
  refine pv_iloadn (pc := 1) (n := 0) 0 rfl rfl (fm_dec dtJ6_bitCount_0f7a4 1 rfl) ?_
  refine pv_iconst (pc := 2) (v := 1) (by decide) (fm_dec dtJ6_bitCount_0f7a4 2 rfl) ?_
  refine pv_iushr (pc := 3) (fm_dec dtJ6_bitCount_0f7a4 3 rfl) ?_
  refine pv_ldcw (pc := 4) pkc_J6_265 (fm_dec dtJ6_bitCount_0f7a4 4 rfl) ?_
  refine pv_iand (pc := 7) (fm_dec dtJ6_bitCount_0f7a4 5 rfl) ?_
  refine pv_isub (pc := 8) (fm_dec dtJ6_bitCount_0f7a4 6 rfl) ?_
  refine pv_istoren (pc := 9) (n := 0) 0 rfl (by decide) rfl (fm_dec dtJ6_bitCount_0f7a4 7 rfl) ?_
  dsimp only [List.set_cons_zero, List.set_cons_succ]
  refine pv_iloadn (pc := 10) (n := 0) 0 rfl rfl (fm_dec dtJ6_bitCount_0f7a4 8 rfl) ?_
  refine pv_ldcw (pc := 11) pkc_J6_266 (fm_dec dtJ6_bitCount_0f7a4 9 rfl) ?_
  refine pv_iand (pc := 14) (fm_dec dtJ6_bitCount_0f7a4 10 rfl) ?_
  refine pv_iloadn (pc := 15) (n := 0) 0 rfl rfl (fm_dec dtJ6_bitCount_0f7a4 11 rfl) ?_
  refine pv_iconst (pc := 16) (v := 2) (by decide) (fm_dec dtJ6_bitCount_0f7a4 12 rfl) ?_
  refine pv_iushr (pc := 17) (fm_dec dtJ6_bitCount_0f7a4 13 rfl) ?_
  refine pv_ldcw (pc := 18) pkc_J6_266 (fm_dec dtJ6_bitCount_0f7a4 14 rfl) ?_
  refine pv_iand (pc := 21) (fm_dec dtJ6_bitCount_0f7a4 15 rfl) ?_
  refine pv_iadd (pc := 22) (fm_dec dtJ6_bitCount_0f7a4 16 rfl) ?_
  refine pv_istoren (pc := 23) (n := 0) 0 rfl (by decide) rfl (fm_dec dtJ6_bitCount_0f7a4 17 rfl) ?_
  dsimp only [List.set_cons_zero, List.set_cons_succ]
  refine pv_iloadn (pc := 24) (n := 0) 0 rfl rfl (fm_dec dtJ6_bitCount_0f7a4 18 rfl) ?_
  refine pv_iloadn (pc := 25) (n := 0) 0 rfl rfl (fm_dec dtJ6_bitCount_0f7a4 19 rfl) ?_
  refine pv_iconst (pc := 26) (v := 4) (by decide) (fm_dec dtJ6_bitCount_0f7a4 20 rfl) ?_
  refine pv_iushr (pc := 27) (fm_dec dtJ6_bitCount_0f7a4 21 rfl) ?_
  refine pv_iadd (pc := 28) (fm_dec dtJ6_bitCount_0f7a4 22 rfl) ?_
  refine pv_ldcw (pc := 29) pkc_J6_267 (fm_dec dtJ6_bitCount_0f7a4 23 rfl) ?_
  refine pv_iand (pc := 32) (fm_dec dtJ6_bitCount_0f7a4 24 rfl) ?_
  refine pv_istoren (pc := 33) (n := 0) 0 rfl (by decide) rfl (fm_dec dtJ6_bitCount_0f7a4 25 rfl) ?_
  dsimp only [List.set_cons_zero, List.set_cons_succ]
  refine pv_iloadn (pc := 34) (n := 0) 0 rfl rfl (fm_dec dtJ6_bitCount_0f7a4 26 rfl) ?_
  refine pv_iloadn (pc := 35) (n := 0) 0 rfl rfl (fm_dec dtJ6_bitCount_0f7a4 27 rfl) ?_
  refine pv_bipush (pc := 36) (v := 8) (by decide) (fm_dec dtJ6_bitCount_0f7a4 28 rfl) ?_
  refine pv_iushr (pc := 38) (fm_dec dtJ6_bitCount_0f7a4 29 rfl) ?_
  refine pv_iadd (pc := 39) (fm_dec dtJ6_bitCount_0f7a4 30 rfl) ?_
  refine pv_istoren (pc := 40) (n := 0) 0 rfl (by decide) rfl (fm_dec dtJ6_bitCount_0f7a4 31 rfl) ?_
  dsimp only [List.set_cons_zero, List.set_cons_succ]
  refine pv_iloadn (pc := 41) (n := 0) 0 rfl rfl (fm_dec dtJ6_bitCount_0f7a4 32 rfl) ?_
  refine pv_iloadn (pc := 42) (n := 0) 0 rfl rfl (fm_dec dtJ6_bitCount_0f7a4 33 rfl) ?_
  refine pv_bipush (pc := 43) (v := 16) (by decide) (fm_dec dtJ6_bitCount_0f7a4 34 rfl) ?_
  refine pv_iushr (pc := 45) (fm_dec dtJ6_bitCount_0f7a4 35 rfl) ?_
  refine pv_iadd (pc := 46) (fm_dec dtJ6_bitCount_0f7a4 36 rfl) ?_
  refine pv_istoren (pc := 47) (n := 0) 0 rfl (by decide) rfl (fm_dec dtJ6_bitCount_0f7a4 37 rfl) ?_
  dsimp only [List.set_cons_zero, List.set_cons_succ]
  refine pv_iloadn (pc := 48) (n := 0) 0 rfl rfl (fm_dec dtJ6_bitCount_0f7a4 38 rfl) ?_
  refine pv_bipush (pc := 49) (v := 63) (by decide) (fm_dec dtJ6_bitCount_0f7a4 39 rfl) ?_
  refine pv_iand (pc := 51) (fm_dec dtJ6_bitCount_0f7a4 40 rfl) ?_
  exact pv_ireturn (pc := 52) rfl (fm_dec dtJ6_bitCount_0f7a4 41 rfl) hq
theorem c_bits6 {M : fmM} {Q : fmR → fmM → Prop} {w : Nat} (hw : w < 64) (hq : Q (.inl (some (.int (nI (pop6 w))))) M) : pvGood Tx 0 qJ6_bitCount_0f7a4 [.int (nI w)] M Q := c_bits (by rw [bc6 w hw]; exact hq)
theorem xdBad.fr {M0 M M' : fmM} {k a : Nat} (h : xdBad M M' k a) (hF : xdFr M0 M) : xdBad M0 M' k a := ⟨h.1, h.2.1, h.2.2.1, hF.trans h.2.2.2.1, h.2.2.2.2⟩
theorem xdBad.of0 {M M' : fmM} {tx : tX} {n q aa : Nat} {a : Int32} (h : xdOk M M' tx n q) (ha : a.toInt = aa) (h6 : aa ≤ n) : xdBad M (fmI (fmI M' 1 4 2) 1 5 a) 2 aa := ⟨(show (2 : Int32).toInt = ((2 : Nat) : Int) by decide), ha, by decide, ((h.2.2.1.set (Or.inr (Or.inl rfl))).set (Or.inr (Or.inr rfl))), xI_45 h.2.2.2 (kk := 2) (by decide) (by decide) ha h6 h.1.2.2.2.1.1⟩
theorem xpEnd.at {M0 M M' : fmM} {tx : tX} {n q : Nat} {ls : tC} {se bi i : Int32} {w u : Nat} (hF : xdFr M0 M') (k : xdOk M M' tx n q) (hP : xpI ls se bi i w u) : xpEnd M0 (fmI (fmI (fmI M' 27 0 (nI (pop6 w))) 27 1 (nI w)) 27 2 bi) ls := by
  obtain ⟨h1, h2, h3, h4, h5, h6, h7, h8, h9⟩ := hP
  have p6 := pop6_le w h3
  refine ⟨?_, by omega, ⟨w, u, rfl, h6, h3, h7, h4, h5, h8⟩, h9, fun k' j a b => ?_, fun j a b c => hF.2 j a b c, k.2.1, ?_⟩
  · show (nI (pop6 w)).toInt = _
    rw [nI_toInt (by omega), h4]
  · refine ⟨?_, (hF.1 k' j a).2⟩
    rw [fmI_k _ _ b, fmI_k _ _ b, fmI_k _ _ b]
    exact (hF.1 k' j a).1
  · exact xInv.put (xInv.put (xInv.put k.2.2.2 (scq_t _)) (scq_t _)) (scq_t _)
set_option maxRecDepth 20000 in
theorem xp_loop {Q : fmR → fmM → Prop} {tx : tX} {n : Nat} {M0 : fmM} (ht : tOk tx n) : ∀ (m : Nat) (M : fmM) (ls : tC) (se bi i : Int32) (w u p : Nat) (v5 v6 v7 : Option Value), xS2 M tx n p → M.1 1 4 = 0 → scInv Tx invX M → xdFr M0 M → xpI ls se bi i w u → ¬ pgL tx n m ls (sk tx p) = .inl (9, 0) → (∀ (M2 : fmM) (ls2 : tC), pgL tx n m ls (sk tx p) = .inr ls2 → xpEnd M0 M2 ls2 → Q (.inl (some (.int 1))) M2) → (∀ (M2 : fmM) (k a : Nat), pgL tx n m ls (sk tx p) = .inl (k, a) → xdBad M0 M2 k a → Q (.inl (some (.int 0))) M2) → pvEv Tx 3 qX2_read 7 [some (.ref 27), some (.ref 1), some (.int se), some (.int bi), some (.int i), v5, v6, v7] [] M Q := by
  intro m
  induction m using Nat.strongRecOn with
  | _ m ih =>
    intro M ls se bi i w u p v5 v6 v7 hS hf hI hF hP hne hok hbad
    obtain ⟨f, rfl⟩ : ∃ f, m = f + 1 := (by cases m with | zero => exact absurd rfl hne | succ f => exact ⟨f, rfl⟩)
    refine pv_iload (pc := 7) (i := 4) rfl (fm_dec dtX2_read 6 rfl) ?_
    refine pv_bipush (pc := 9) (v := 6) (by decide) (fm_dec dtX2_read 7 rfl) ?_
    refine pv_icmp_gt (pc := 11) 103 (by decide) (fm_dec dtX2_read 8 rfl) (fun hc11 => by exfalso; rw [sc_lt] at hc11; have h8 : (6 : Int32).toInt = 6 := (by decide); have h7 := pop6_le w hP.2.2.1; have h6 := hP.1; have h5 := hP.2.2.2.1; omega) (fun _ => ?_)
    refine pv_aloadn (pc := 14) (n := 1) 1 rfl rfl (fm_dec dtX2_read 9 rfl) ?_
    refine pv_invV0 (k := 1) (d' := 0) (pc := 15) pcv_X2_21 (by decide) rfl (Nat.le_of_ble_eq_true rfl) (by decide) (fm_dec dtX2_read 10 rfl) ?_
    refine x_peek hS hf hI (fun M15 v15 hv15 k15 => ?_)
    refine pv_then1 ?_
    refine pv_iconst (pc := 18) (v := (-1)) (by decide) (fm_dec dtX2_read 11 rfl) ?_
    refine pv_icmp_eq (pc := 19) 103 (by decide) (fm_dec dtX2_read 12 rfl) (fun hc19 => ?_) (fun hc19 => ?_)
    · have hsp : sk tx p ≤ n := sp_le tB_1 ht hS.2.2.1
      have hnp : n ≤ sk tx p := (by by_cases h9 : n ≤ sk tx p; exact h9; exfalso; have h8 := ht.2.2 (sk tx p) (by omega); rw [hc19] at hv15; have h7 : (-1 : Int32).toInt = -1 := (by decide); omega)
      rw [hP.2.1]
      refine pv_aloadn (pc := 103) (n := 0) 0 rfl rfl (fm_dec dtX2_read 62 rfl) ?_
      refine pv_iloadn (pc := 104) (n := 2) 2 rfl rfl (fm_dec dtX2_read 63 rfl) ?_
      refine pv_iS1 (d' := 0) (pc := 105) pcs_X2_46 (Nat.le_of_ble_eq_true rfl) (by decide) (fm_dec dtX2_read 64 rfl) ?_
      refine c_bits6 hP.2.2.1 ?_
      refine pv_then1 ?_
      refine pv_putI (k := 27) (j := 0) (ci := 2) (pc := 108) pfl_X2_9 (by decide) rfl (by decide) (fm_dec dtX2_read 65 rfl) ?_
      refine pv_aloadn (pc := 111) (n := 0) 0 rfl rfl (fm_dec dtX2_read 66 rfl) ?_
      refine pv_iloadn (pc := 112) (n := 2) 2 rfl rfl (fm_dec dtX2_read 67 rfl) ?_
      refine pv_putI (k := 27) (j := 1) (ci := 2) (pc := 113) pfl_X2_15 (by decide) rfl (by decide) (fm_dec dtX2_read 68 rfl) ?_
      refine pv_aloadn (pc := 116) (n := 0) 0 rfl rfl (fm_dec dtX2_read 69 rfl) ?_
      refine pv_iloadn (pc := 117) (n := 3) 3 rfl rfl (fm_dec dtX2_read 70 rfl) ?_
      refine pv_putI (k := 27) (j := 2) (ci := 2) (pc := 118) pfl_X2_18 (by decide) rfl (by decide) (fm_dec dtX2_read 71 rfl) ?_
      refine pv_iconst (pc := 121) (v := 1) (by decide) (fm_dec dtX2_read 72 rfl) ?_
      exact pv_zreturn (pc := 122) rfl (by first | exact Or.inr rfl | exact Or.inl rfl) (fm_dec dtX2_read 73 rfl) (hok _ ls (pgL_0 hnp) (xpEnd.at (hF.trans k15.2.2.1) k15 hP))
    · have hsp : sk tx p ≤ n := sp_le tB_1 ht hS.2.2.1
      have hnp : ¬ n ≤ sk tx p := (fun h9 => hc19 (i32_ext (by rw [hv15, ht.2.1 _ h9]; decide)))
      refine pv_aloadn (pc := 22) (n := 1) 1 rfl rfl (fm_dec dtX2_read 13 rfl) ?_
      refine pv_invV0 (k := 1) (d' := 1) (pc := 23) pcv_X2_27 (by decide) rfl (Nat.le_of_ble_eq_true rfl) (by decide) (fm_dec dtX2_read 14 rfl) ?_
      refine x_next k15.1 k15.2.1 k15.2.2.2 (fun M23 x23 hx23 k23 => ?_)
      refine pv_then1 ?_
      refine pv_istore (pc := 26) (i := 5) (by decide) rfl (fm_dec dtX2_read 15 rfl) ?_
      dsimp only [List.set_cons_zero, List.set_cons_succ]
      refine pv_aloadn (pc := 28) (n := 1) 1 rfl rfl (fm_dec dtX2_read 16 rfl) ?_
      refine pv_iconst (pc := 29) (v := 0) (by decide) (fm_dec dtX2_read 17 rfl) ?_
      refine pv_iconst (pc := 30) (v := 5) (by decide) (fm_dec dtX2_read 18 rfl) ?_
      refine pv_invV2 (k := 1) (d' := 2) (pc := 31) pcv_X2_30 (by decide) rfl (Nat.le_of_ble_eq_true rfl) (by decide) (fm_dec dtX2_read 19 rfl) ?_
      refine x_numC 0 5 (by decide) (by decide) (by decide) k23.1 k23.2.1 k23.2.2.2 (fun M31 k31 q31 w31 e31 hw31 k31o => ?_) (fun M31 kb ab e31 b31 => ?_)
      · refine pv_then1 ?_
        refine pv_istore (pc := 34) (i := 6) (by decide) rfl (fm_dec dtX2_read 20 rfl) ?_
        dsimp only [List.set_cons_zero, List.set_cons_succ]
        have hk6 : k31 < 6 := (by have h9 := spNum_ok ht k23.1.2.2.1 e31; omega)
        have e31 : spNum tx 0 5 (sk tx p) = .inr (k31, q31) := (by rw [sk_sk ht hS.2.2.1] at e31; exact e31)
        refine pv_iload (pc := 36) (i := 6) rfl (fm_dec dtX2_read 21 rfl) ?_
        refine pv_if_lt (pc := 38) 58 (by decide) (fm_dec dtX2_read 22 rfl) (fun hc38 => by exfalso; have h9 := hc38; rw [sc_lt] at h9; have h8 : (0 : Int32).toInt = 0 := (by decide); omega) (fun _ => ?_)
        refine pv_iloadn (pc := 41) (n := 2) 2 rfl rfl (fm_dec dtX2_read 23 rfl) ?_
        refine pv_iload (pc := 42) (i := 6) rfl (fm_dec dtX2_read 24 rfl) ?_
        refine pv_ishr (pc := 44) (fm_dec dtX2_read 25 rfl) ?_
        refine pv_iconst (pc := 45) (v := 1) (by decide) (fm_dec dtX2_read 26 rfl) ?_
        refine pv_iand (pc := 46) (fm_dec dtX2_read 27 rfl) ?_
        refine pv_if_eq (pc := 47) 58 (by decide) (fm_dec dtX2_read 28 rfl) (fun hc47 => ?_) (fun hc47 => ?_)
        · have hbit : w.testBit k31 = false := (has6z w hP.2.2.1 k31 hk6).mp (by have h9 := hc47; rw [hP.2.1, nI_is hw31 (by omega)] at h9; exact h9)
          have hns : pgHas ls k31 = false := (by rw [← hP.2.2.2.2.1 k31 hk6]; exact hbit)
          refine pv_aloadn (pc := 58) (n := 1) 1 rfl rfl (fm_dec dtX2_read 34 rfl) ?_
          refine pv_iconst (pc := 59) (v := 0) (by decide) (fm_dec dtX2_read 35 rfl) ?_
          refine pv_iconst (pc := 60) (v := 1) (by decide) (fm_dec dtX2_read 36 rfl) ?_
          refine pv_invV2 (k := 1) (d' := 2) (pc := 61) pcv_X2_30 (by decide) rfl (Nat.le_of_ble_eq_true rfl) (by decide) (fm_dec dtX2_read 37 rfl) ?_
          refine x_numC 0 1 (by decide) (by decide) (by decide) k31o.1 k31o.2.1 k31o.2.2.2 (fun M61 b61 q61 w61 e61 hw61 k61 => ?_) (fun M61 kb ab e61 b61 => ?_)
          · refine pv_then1 ?_
            refine pv_istore (pc := 64) (i := 7) (by decide) rfl (fm_dec dtX2_read 38 rfl) ?_
            dsimp only [List.set_cons_zero, List.set_cons_succ]
            have hb2 : b61 < 2 := (by have h9 := spNum_ok ht k31o.1.2.2.1 e61; omega)
            refine pv_aloadn (pc := 66) (n := 1) 1 rfl rfl (fm_dec dtX2_read 39 rfl) ?_
            refine pv_bipush (pc := 67) (v := 59) (by decide) (fm_dec dtX2_read 40 rfl) ?_
            refine pv_invV1 (k := 1) (d' := 1) (pc := 69) pcv_X2_38 (by decide) rfl (Nat.le_of_ble_eq_true rfl) (by decide) (fm_dec dtX2_read 41 rfl) ?_
            refine x_signC 59 (by decide) (by decide) k61.1 k61.2.1 k61.2.2.2 (fun M69 q69 e69 k69 => ?_) (fun M69 kb ab e69 b69 => ?_)
            · refine pv_then1 ?_
              refine pv_pop (pc := 72) rfl (fm_dec dtX2_read 42 rfl) ?_
              refine pv_aloadn (pc := 73) (n := 1) 1 rfl rfl (fm_dec dtX2_read 43 rfl) ?_
              refine pv_invV0 (k := 1) (d' := 0) (pc := 74) pcv_X2_42 (by decide) rfl (Nat.le_of_ble_eq_true rfl) (by decide) (fm_dec dtX2_read 44 rfl) ?_
              refine c_xfailed (fun _ => ?_) (fun h9 => absurd k69.2.1 h9) 
              refine pv_then1 ?_
              refine pv_if_eq (pc := 77) 82 (by decide) (fm_dec dtX2_read 45 rfl) (fun _ => ?_) (fun hc77 => by exfalso; revert hc77; decide)
              refine pv_iloadn (pc := 82) (n := 2) 2 rfl rfl (fm_dec dtX2_read 48 rfl) ?_
              refine pv_iconst (pc := 83) (v := 1) (by decide) (fm_dec dtX2_read 49 rfl) ?_
              refine pv_iload (pc := 84) (i := 6) rfl (fm_dec dtX2_read 50 rfl) ?_
              refine pv_ishl (pc := 86) (fm_dec dtX2_read 51 rfl) ?_
              refine pv_ior (pc := 87) (fm_dec dtX2_read 52 rfl) ?_
              refine pv_istoren (pc := 88) (n := 2) 2 rfl (by decide) rfl (fm_dec dtX2_read 53 rfl) ?_
              dsimp only [List.set_cons_zero, List.set_cons_succ]
              refine pv_iloadn (pc := 89) (n := 3) 3 rfl rfl (fm_dec dtX2_read 54 rfl) ?_
              refine pv_iload (pc := 90) (i := 7) rfl (fm_dec dtX2_read 55 rfl) ?_
              refine pv_iload (pc := 92) (i := 6) rfl (fm_dec dtX2_read 56 rfl) ?_
              refine pv_ishl (pc := 94) (fm_dec dtX2_read 57 rfl) ?_
              refine pv_ior (pc := 95) (fm_dec dtX2_read 58 rfl) ?_
              refine pv_istoren (pc := 96) (n := 3) 3 rfl (by decide) rfl (fm_dec dtX2_read 59 rfl) ?_
              dsimp only [List.set_cons_zero, List.set_cons_succ]
              refine pv_iincc (pc := 97) 4 1 (by decide) rfl (by decide) rfl (fm_dec dtX2_read 60 rfl) ?_
              dsimp only [List.set_cons_zero, List.set_cons_succ]
              refine pv_goto (pc := 100) 7 (by decide) (fm_dec dtX2_read 61 rfl) ?_
              have e9 := pgL_5 (f := f) (ls := ls) hnp e31 hns e61 e69
              rw [e9] at hne hok hbad
              exact ih f (by omega) M69 (ls ++ [(k31, b61)]) _ _ _ (w ||| 1 <<< k31) (u ||| b61 <<< k31) q69 _ _ _ k69.1 k69.2.1 k69.2.2.2 (hF.trans (k15.2.2.1.trans (k23.2.2.1.trans (k31o.2.2.1.trans (k61.2.2.1.trans k69.2.2.1))))) (hP.add hw31 hw61 hk6 hb2 hbit) hne hok hbad
            · refine pv_then1 ?_
              refine pv_pop (pc := 72) rfl (fm_dec dtX2_read 42 rfl) ?_
              exact xp_f73 b69 (fun M2 h2 => hbad M2 kb ab (pgL_4 hnp e31 hns e61 e69) (h2.fr (hF.trans (k15.2.2.1.trans (k23.2.2.1.trans (k31o.2.2.1.trans k61.2.2.1))))))
          · refine pv_then1 ?_
            refine pv_istore (pc := 64) (i := 7) (by decide) rfl (fm_dec dtX2_read 38 rfl) ?_
            dsimp only [List.set_cons_zero, List.set_cons_succ]
            exact xp_f66 b61 (fun M2 h2 => hbad M2 kb ab (pgL_3 hnp e31 hns e61) (h2.fr (hF.trans (k15.2.2.1.trans (k23.2.2.1.trans k31o.2.2.1)))))
        · refine pv_aloadn (pc := 50) (n := 1) 1 rfl rfl (fm_dec dtX2_read 29 rfl) ?_
          refine pv_iconst (pc := 51) (v := 2) (by decide) (fm_dec dtX2_read 30 rfl) ?_
          refine pv_iload (pc := 52) (i := 5) rfl (fm_dec dtX2_read 31 rfl) ?_
          refine pv_invV2 (k := 1) (d' := 0) (pc := 54) pcv_X2_34 (by decide) rfl (Nat.le_of_ble_eq_true rfl) (by decide) (fm_dec dtX2_read 32 rfl) ?_
          refine c_xfail0 k31o.2.1 ?_
          refine pv_then1 ?_
          refine pv_pop (pc := 57) rfl (fm_dec dtX2_read 33 rfl) ?_
          have hbit : w.testBit k31 = true := (by cases h8 : w.testBit k31 with | true => rfl | false => exact absurd (by have h9 := (has6z w hP.2.2.1 k31 hk6).mpr h8; rw [hP.2.1, nI_is hw31 (by omega)]; exact h9) hc47)
          have hns : pgHas ls k31 = true := (by rw [← hP.2.2.2.2.1 k31 hk6]; exact hbit)
          exact xp_f58 (xdBad.of0 k31o hx23 (show sk tx (sk tx p) ≤ n from by rw [sk_sk ht hS.2.2.1]; exact hsp)) (fun M2 h2 => hbad M2 2 (sk tx p) (pgL_2 hnp e31 hns) ((by rw [sk_sk ht hS.2.2.1] at h2; exact h2.fr (hF.trans (k15.2.2.1.trans k23.2.2.1)))))
      · refine pv_then1 ?_
        refine pv_istore (pc := 34) (i := 6) (by decide) rfl (fm_dec dtX2_read 20 rfl) ?_
        dsimp only [List.set_cons_zero, List.set_cons_succ]
        refine pv_iload (pc := 36) (i := 6) rfl (fm_dec dtX2_read 21 rfl) ?_
        refine pv_if_lt (pc := 38) 58 (by decide) (fm_dec dtX2_read 22 rfl) (fun _ => ?_) (fun hc38 => by exfalso; revert hc38; decide)
        have e31 : spNum tx 0 5 (sk tx p) = .inl (kb, ab) := (by rw [sk_sk ht hS.2.2.1] at e31; exact e31)
        exact xp_f58 b31 (fun M2 h2 => hbad M2 kb ab (pgL_1 hnp e31) (h2.fr (hF.trans (k15.2.2.1.trans k23.2.2.1))))
set_option maxRecDepth 20000 in
theorem c_xpread {M : fmM} {Q : fmR → fmM → Prop} {tx : tX} {n : Nat} (hS : xS2 M tx n 0) (hf : M.1 1 4 = 0) (hI : scInv Tx invX M) (hok : ∀ (M2 : fmM) (ls2 : tC), spPage tx n = .inr ls2 → xpEnd M M2 ls2 → Q (.inl (some (.int 1))) M2) (hbad : ∀ (M2 : fmM) (k a : Nat), spPage tx n = .inl (k, a) → xdBad M M2 k a → Q (.inl (some (.int 0))) M2) : pvGood Tx 3 qX2_read [.ref 27, .ref 1] M Q := by
  refine pvGood_of (Nat.le_of_ble_eq_true rfl) ?_
  show pvEv Tx 3 qX2_read 0 [some (.ref 27), some (.ref 1), none, none, none, none, none, none] [] M Q
  refine pv_iconst (pc := 0) (v := 0) (by decide) (fm_dec dtX2_read 0 rfl) ?_
  refine pv_istoren (pc := 1) (n := 2) 2 rfl (by decide) rfl (fm_dec dtX2_read 1 rfl) ?_
  dsimp only [List.set_cons_zero, List.set_cons_succ]
  refine pv_iconst (pc := 2) (v := 0) (by decide) (fm_dec dtX2_read 2 rfl) ?_
  refine pv_istoren (pc := 3) (n := 3) 3 rfl (by decide) rfl (fm_dec dtX2_read 3 rfl) ?_
  dsimp only [List.set_cons_zero, List.set_cons_succ]
  refine pv_iconst (pc := 4) (v := 0) (by decide) (fm_dec dtX2_read 4 rfl) ?_
  refine pv_istore (pc := 5) (i := 4) (by decide) rfl (fm_dec dtX2_read 5 rfl) ?_
  dsimp only [List.set_cons_zero, List.set_cons_succ]
  have ht := hS.2.2.2.1
  refine xp_loop ht 700 M [] 0 0 0 0 0 0 _ _ _ hS hf hI (xdFr.refl M) ⟨by decide, by decide, by decide, by decide, by decide, by decide, by decide, by decide, fun l h => (by cases h)⟩ (pgL_fuel ht 700 [] (sk tx 0) (sp_le tB_1 ht (Nat.zero_le _)) (by have := ht.1; omega)) hok hbad
set_option maxRecDepth 20000 in
theorem c_xpage {M : fmM} {Q : fmR → fmM → Prop} {T : Nat → tX} {nn : Int32} (hI : scInv Tx invX M) (hT : txF M T) (hrf : ¬ txP nn 60 (M.1 1 1).toInt → Q (.inr fmIAE) (fmI M 0 16 (M.1 0 16 + 1))) (hok : ∀ (n : Nat) (M' : fmM) (ls : tC) (r : Int32), nn.toInt = (n : Int) → txP nn 60 (M.1 1 1).toInt → spPage (T n) n = .inr ls → r.toInt = (ls.length : Int) → xpEnd (opM M nn) M' ls → Q (.inl (some (.int r))) M') (hbad : ∀ (n k a : Nat) (M' : fmM) (r : Int32), nn.toInt = (n : Int) → txP nn 60 (M.1 1 1).toInt → spPage (T n) n = .inl (k, a) → r.toInt = (k : Int) - 10 → xdBad (opM M nn) M' k a → Q (.inl (some (.int r))) M') : pvGood Tx 41 qX10_page [.ref 0, .int nn] M Q := by
  refine pvGood_of (Nat.le_of_ble_eq_true rfl) ?_
  show pvEv Tx 41 qX10_page 0 [some (.ref 0), some (.int nn)] [] M Q
  refine pv_aloadn (pc := 0) (n := 0) 0 rfl rfl (fm_dec dtX10_page 0 rfl) ?_
  refine pv_iloadn (pc := 1) (n := 1) 1 rfl rfl (fm_dec dtX10_page 1 rfl) ?_
  refine pv_bipush (pc := 2) (v := 60) (by decide) (fm_dec dtX10_page 2 rfl) ?_
  refine pv_invV2 (k := 0) (d' := 1) (pc := 4) pcv_X10_108 (by decide) rfl (Nat.le_of_ble_eq_true rfl) (by decide) (fm_dec dtX10_page 3 rfl) ?_
  refine c_openT (fun h4 => ?_) (fun h4 => ?_)
  · refine pv_then0 ?_
    have h46 : nn.toInt ≤ 60 := h4.2.1
    obtain ⟨n, hn⟩ : ∃ n : Nat, nn.toInt = (n : Int) := ⟨nn.toInt.toNat, by have := h4.1; omega⟩
    have hI4 := inv_open (n := nn) hI h4.1 (by omega)
    have hT9 := hT n (by have := h4.2.2; omega)
    have hS := op_S hn hT9.1 hT9.2
    have hf4 : (opM M nn).1 1 4 = 0 := rfl
    refine pv_aloadn (pc := 7) (n := 0) 0 rfl rfl (fm_dec dtX10_page 4 rfl) ?_
    refine pv_getR (k := 0) (j := 4) (ci := 10) (pc := 8) 27 rfl (by decide) pfl_X10_36 (by decide) rfl (by decide) (fm_dec dtX10_page 5 rfl) ?_
    refine pv_aloadn (pc := 11) (n := 0) 0 rfl rfl (fm_dec dtX10_page 6 rfl) ?_
    refine pv_getR (k := 0) (j := 0) (ci := 10) (pc := 12) 1 rfl (by decide) pfl_X10_12 (by decide) rfl (by decide) (fm_dec dtX10_page 7 rfl) ?_
    refine pv_invV1 (k := 27) (d' := 3) (pc := 15) pcv_X10_161 (by decide) rfl (Nat.le_of_ble_eq_true rfl) (by decide) (fm_dec dtX10_page 8 rfl) ?_
    refine c_xpread hS hf4 hI4 (fun M15 ls e15 k15 => ?_) (fun Mb kb ab eb hB => ?_)  
    · refine pv_then1 ?_
      refine pv_if_ne (pc := 18) 32 (by decide) (fm_dec dtX10_page 9 rfl) (fun _ => ?_) (fun hc18 => by exfalso; revert hc18; decide)
      refine pv_aloadn (pc := 32) (n := 0) 0 rfl rfl (fm_dec dtX10_page 16 rfl) ?_
      refine pv_getR (k := 0) (j := 4) (ci := 10) (pc := 33) 27 rfl (by decide) pfl_X10_36 (by decide) rfl (by decide) (fm_dec dtX10_page 17 rfl) ?_
      refine pv_getI (k := 27) (j := 0) (ci := 2) (pc := 36) pfl_X10_162 (by decide) rfl (by decide) (fm_dec dtX10_page 18 rfl) ?_
      exact pv_ireturn (pc := 39) rfl (fm_dec dtX10_page 19 rfl) (hok n M15 ls _ hn h4 e15 k15.1 k15)
    · refine pv_then1 ?_
      refine pv_if_ne (pc := 18) 32 (by decide) (fm_dec dtX10_page 9 rfl) (fun hc18 => by exfalso; revert hc18; decide) (fun _ => ?_)
      refine pv_aloadn (pc := 21) (n := 0) 0 rfl rfl (fm_dec dtX10_page 10 rfl) ?_
      refine pv_getR (k := 0) (j := 0) (ci := 10) (pc := 22) 1 rfl (by decide) pfl_X10_12 (by decide) rfl (by decide) (fm_dec dtX10_page 11 rfl) ?_
      refine pv_getI (k := 1) (j := 4) (ci := 7) (pc := 25) pfl_X10_116 (by decide) rfl (by decide) (fm_dec dtX10_page 12 rfl) ?_
      refine pv_bipush (pc := 28) (v := 10) (by decide) (fm_dec dtX10_page 13 rfl) ?_
      refine pv_isub (pc := 30) (fm_dec dtX10_page 14 rfl) ?_
      exact pv_ireturn (pc := 31) rfl (fm_dec dtX10_page 15 rfl) (hbad n kb ab Mb _ hn h4 eb (law_r hB.1 (by have h9 := hB.f13; have h8 := hB.1; omega)) hB)
  · refine pv_thenX ?_
    exact hrf h4
end
-- P 18ka
section
-- WHAT STAYS
def kpIn (P : List (Nat × Nat) × List (Nat × Nat)) (k j : Nat) : Bool := P.1.any (fun p => Nat.ble p.1 k && Nat.ble k p.2) || P.2.any (fun p => Nat.beq p.1 k && Nat.beq p.2 j)
def kpOk (P : List (Nat × Nat) × List (Nat × Nat)) (W : List (Nat × Nat × Nat)) : Bool := P.1.all (fun p => W.all (fun w => Nat.blt w.1 p.1 || Nat.blt p.2 w.1)) && P.2.all (fun p => W.all (fun w => Nat.blt w.1 p.1 || Nat.blt p.1 w.1 || Nat.ble (w.2.1 + w.2.2) p.2 || Nat.blt p.2 w.2.1))
/-- the places of P are as they were -/
def kpt (P : List (Nat × Nat) × List (Nat × Nat)) (M M' : fmM) : Prop := ∀ k j, kpIn P k j = true → M'.1 k j = M.1 k j
theorem kpt.refl {P : List (Nat × Nat) × List (Nat × Nat)} (M : fmM) : kpt P M M := fun _ _ _ => rfl
theorem kpt.trans {P : List (Nat × Nat) × List (Nat × Nat)} {M M1 M2 : fmM} (h : kpt P M M1) (h' : kpt P M1 M2) : kpt P M M2 := fun k j hk => (h' k j hk).trans (h k j hk)
theorem kp_of {P : List (Nat × Nat) × List (Nat × Nat)} {W : List (Nat × Nat × Nat)} {M M' : fmM} (h : scFr W M M') (hd : kpOk P W = true) : kpt P M M' := fun k j hk => by
  refine (h k j ?_).1
  cases e : scIn W k j with
  | false => rfl
  | true =>
    exfalso
    obtain ⟨w, hw, h2⟩ := List.any_eq_true.mp e
    simp only [Bool.and_eq_true, Nat.ble_eq, beq_iff_eq, Nat.blt_eq] at h2
    unfold kpOk at hd
    rw [Bool.and_eq_true] at hd
    unfold kpIn at hk
    rw [Bool.or_eq_true] at hk
    rcases hk with hk | hk
    · obtain ⟨p, hp, h1⟩ := List.any_eq_true.mp hk
      have h3 := List.all_eq_true.mp (List.all_eq_true.mp hd.1 p hp) w hw
      simp only [Bool.and_eq_true, Nat.ble_eq] at h1
      simp only [Bool.or_eq_true, Nat.blt_eq] at h3
      omega
    · obtain ⟨p, hp, h1⟩ := List.any_eq_true.mp hk
      have h3 := List.all_eq_true.mp (List.all_eq_true.mp hd.2 p hp) w hw
      simp only [Bool.and_eq_true, Nat.beq_eq] at h1
      simp only [Bool.or_eq_true, Nat.ble_eq, Nat.blt_eq] at h3
      omega
theorem kpt.sub {P P' : List (Nat × Nat) × List (Nat × Nat)} {M M' : fmM} (h : kpt P M M') (h1 : ∀ q ∈ P'.1, q ∈ P.1) (h2 : ∀ q ∈ P'.2, q ∈ P.2) : kpt P' M M' := fun k j hk => by
  refine h k j ?_
  unfold kpIn at hk ⊢
  rw [Bool.or_eq_true] at hk ⊢
  rcases hk with hk | hk
  · obtain ⟨p, hp, g⟩ := List.any_eq_true.mp hk
    exact Or.inl (List.any_eq_true.mpr ⟨p, h1 p hp, g⟩)
  · obtain ⟨p, hp, g⟩ := List.any_eq_true.mp hk
    exact Or.inr (List.any_eq_true.mpr ⟨p, h2 p hp, g⟩)
abbrev PXk : List (Nat × Nat) × List (Nat × Nat) := ([(3, 12), (23, 25), (27, 27)], [(0, 13)])
abbrev PMk : List (Nat × Nat) × List (Nat × Nat) := ([(4, 4), (35, 42), (67, 90), (91, 250), (411, 416)], [(0, 17), (0, 31), (0, 34)])
theorem kpx_k {k j : Nat} (h : kpIn PXk k j = true) : (k = 0 ∧ j = 13) ∨ (3 ≤ k ∧ k ≤ 27 ∧ (k ≤ 12 ∨ 23 ≤ k)) := by
  simp only [kpIn, List.any_cons, List.any_nil, Bool.or_eq_true, Bool.and_eq_true, Nat.ble_eq, Nat.beq_eq, Bool.false_eq_true, or_false] at h
  omega
theorem kpm_k {k j : Nat} (h : kpIn PMk k j = true) : (k = 0 ∧ (j = 17 ∨ j = 31 ∨ j = 34)) ∨ (k = 4 ∨ (35 ≤ k ∧ k < 43) ∨ (67 ≤ k ∧ k < 91) ∨ (91 ≤ k ∧ k < 251) ∨ (411 ≤ k ∧ k < 417)) := by
  simp only [kpIn, List.any_cons, List.any_nil, Bool.or_eq_true, Bool.and_eq_true, Nat.ble_eq, Nat.beq_eq, Bool.false_eq_true, or_false] at h
  omega
theorem kp_op {M : fmM} {n : Int32} : kpt PXk M (opM M n) := fun k j hk => by
  have h9 := kpx_k hk
  unfold opM
  rw [fmI_k _ _ (by omega), fmI_k _ _ (by omega), fmI_k _ _ (by omega), fmI_k _ _ (by omega), fmI_k _ _ (by omega)]
theorem kp_xI {M M1 : fmM} {a b : Nat} {x : Int32} (h : kpt PXk M M1) (hn : (a = 0 ∧ b ≠ 13) ∨ a = 1 ∨ a = 2) : kpt PXk M (fmI M1 a b x) := fun k j hk => by
  have h9 := kpx_k hk
  rw [fmI_at, if_neg (by omega)]
  exact h k j hk
theorem kp_mI {M M1 : fmM} {a b : Nat} {x : Int32} (h : kpt PMk M M1) (hn : (a = 0 ∧ b ≠ 17 ∧ b ≠ 31 ∧ b ≠ 34) ∨ a = 1 ∨ a = 2 ∨ a = 3) : kpt PMk M (fmI M1 a b x) := fun k j hk => by
  have h9 := kpm_k hk
  rw [fmI_at, if_neg (by omega)]
  exact h k j hk
theorem kp_rf {M : fmM} {w : Int32} {r : Nat} : kpt PMk M (rfM M w r) := kp_mI (kp_mI (kp_mI (kpt.refl M) (by decide)) (by decide)) (by omega)
theorem kp_st {M M1 : fmM} {tx : tX} {n : Nat} (h : stOk (fmI M 0 0 0) M1 tx n) : kpt PMk M M1 := fun k j hk => by
  have h9 := kpm_k hk
  by_cases e : k = 0
  · subst e
    exact st_j h (by omega)
  · exact st_k h e
theorem kp_sr {b : Nat} {M M' : fmM} (h : srFr b M M') : kpt PMk M M' := fun k j hk => by
  have h9 := kpm_k hk
  by_cases e : k = 0
  · subst e
    exact h.2.1 j (by omega) (by omega) (by omega) (by omega) (by omega)
  · exact h.1 k j e (by omega)
theorem kp_law {M M' : fmM} (h : lawFr M M') : kpt ([(4, 4), (35, 42), (67, 90), (411, 416)], [(0, 31), (0, 34)]) M M' := fun k j hk => by
  simp only [kpIn, List.any_cons, List.any_nil, Bool.or_eq_true, Bool.and_eq_true, Nat.ble_eq, Nat.beq_eq, Bool.false_eq_true, or_false] at hk
  by_cases e : k = 0
  · subst e
    exact h.2.1 j (by omega) (by omega) (by omega)
  · exact h.1 k j e (by omega)
theorem kp_pg {M M' : fmM} (h : pgFr M M') : kpt ([(4, 4), (35, 42), (67, 90), (91, 250)], [(0, 17), (0, 34)]) M M' := fun k j hk => by
  simp only [kpIn, List.any_cons, List.any_nil, Bool.or_eq_true, Bool.and_eq_true, Nat.ble_eq, Nat.beq_eq, Bool.false_eq_true, or_false] at hk
  by_cases e : k = 0
  · subst e
    exact h.2.1 j (by omega) (by omega) (by omega) (by omega) (by omega)
  · exact h.1 k j e (by omega)
/-- how a text's call ends, on each side -/
def ouO {α : Type} (P : Prop) (nn : Int32) (S : Nat → (Nat × Nat) ⊕ α) (new : α → Prop) (kept : Prop) : Prop := (¬ P ∧ kept) ∨ (P ∧ ∃ (n : Nat) (x : α), nn.toInt = (n : Int) ∧ S n = .inr x ∧ new x) ∨ (P ∧ ∃ (n k a : Nat), nn.toInt = (n : Int) ∧ S n = .inl (k, a) ∧ kept)
theorem ouO_glue {α : Type} {P : Prop} {nn : Int32} {S : Nat → (Nat × Nat) ⊕ α} {n1 n2 : α → Prop} {k1 k2 R : Prop} (h : ouO P nn S n1 k1) (h2 : ouO P nn S n2 k2) (hk : k1 → k2 → R) (hn : ∀ x, n1 x → n2 x → R) : R := by
  rcases h with ⟨p, k⟩ | ⟨p, n, D, e, s, w⟩ | ⟨p, n, k, a, e, s, w⟩ <;> rcases h2 with ⟨p2, k2⟩ | ⟨p2, n2, D2, e2, s2, w2⟩ | ⟨p2, n2, k2, a2, e2, s2, w2⟩
  · exact hk k k2
  · exact absurd p2 p
  · exact absurd p2 p
  · exact absurd p p2
  · have en : n2 = n := by omega
    subst en
    rw [s] at s2
    cases s2
    exact hn _ w w2
  · have en : n2 = n := by omega
    subst en
    rw [s] at s2
    cases s2
  · exact absurd p p2
  · have en : n2 = n := by omega
    subst en
    rw [s] at s2
    cases s2
  · exact hk w w2
def bI (t : Bool) : Int32 := if t then 1 else 0
theorem bI_0 {t : Bool} : bI t = 0 ↔ t = false := by cases t <;> decide
theorem bI_e {t u : Bool} : bI t = bI u ↔ t = u := by cases t <;> cases u <;> decide
theorem kp_cl {M M' : fmM} (h : clFr M M') : kpt PMk M M' := fun k j hk => by
  have h9 := kpm_k hk
  by_cases e : k = 0
  · subst e
    exact h.2.1 j (by omega) (by omega) (by omega) (by omega)
  · exact h.1 k j e (by omega) (by omega) (by omega)
end
-- P 18l
section
-- THE CLASS READS A DRAWER
/-- what a drawer says stands in the cells from b on -/
def xdw (b : Nat) (M : fmM) (D : dD) : Prop := ((M.1 b 9).toInt = (D.1 : Int) ∧ (M.1 b 10).toInt = (D.2.2.1 : Int) ∧ (M.1 b 11).toInt = D.2.2.2.2 2 ∧ (M.1 b 12).toInt = D.2.2.2.2 3 ∧ (M.1 b 13).toInt = D.2.2.2.2 4 ∧ (M.1 b 14).toInt = D.2.2.2.2 5) ∧ (∀ i, i < D.1 → ∀ j, j < 6 → (M.1 (b + 1 + j) i).toInt = D.2.1 i j) ∧ ∀ i, i < D.2.2.1 → ∀ j, j < 3 → (M.1 (b + 7 + j) i).toInt = D.2.2.2.1 i j
def dfFr (M M' : fmM) : Prop := (∀ k j, k ≠ 1 → ¬ (13 ≤ k ∧ k < 23) → M'.1 k j = M.1 k j ∧ M'.2 k j = M.2 k j) ∧ (∀ j, j ≠ 3 → j ≠ 4 → j ≠ 5 → M'.1 1 j = M.1 1 j)
def tok (M M' : fmM) (tx : tX) (n q : Nat) (D : dD) : Prop := xS2 M' tx n q ∧ M'.1 1 4 = 0 ∧ scInv Tx invX M' ∧ xdw 13 M' D ∧ dfFr M M'
def tbad (M M' : fmM) (k a : Nat) : Prop := (M'.1 1 4).toInt = k ∧ (M'.1 1 5).toInt = a ∧ k ≠ 0 ∧ dfFr M M' ∧ scInv Tx invX M'
theorem dfFr.refl (M : fmM) : dfFr M M := ⟨fun _ _ _ _ => ⟨rfl, rfl⟩, fun _ _ _ _ => rfl⟩
theorem dfFr.trans {M M1 M2 : fmM} (h : dfFr M M1) (h' : dfFr M1 M2) : dfFr M M2 := ⟨fun k j a b => ⟨(h'.1 k j a b).1.trans (h.1 k j a b).1, (h'.1 k j a b).2.trans (h.1 k j a b).2⟩, fun j a b c => (h'.2 j a b c).trans (h.2 j a b c)⟩
theorem xdFr.df {M M' : fmM} (h : xdFr M M') : dfFr M M' := ⟨fun k j a _ => h.1 k j a, h.2⟩
theorem dfFr.put {M M1 : fmM} {k j : Nat} {x : Int32} (h : dfFr M M1) (hk : 13 ≤ k ∧ k < 23) : dfFr M (fmI M1 k j x) := by
  refine ⟨fun k' j' a b => ⟨?_, (h.1 k' j' a b).2⟩, fun j' a b c => ?_⟩
  · rw [fmI_k _ _ (by intro h9; exact b (h9 ▸ hk))]
    exact (h.1 k' j' a b).1
  · rw [fmI_k _ _ (by omega)]
    exact h.2 j' a b c
theorem xdBad.tb {M M' : fmM} {k a : Nat} (h : xdBad M M' k a) : tbad M M' k a := ⟨h.1, h.2.1, h.2.2.1, h.2.2.2.1.df, h.2.2.2.2⟩
theorem tbad.fr {M0 M M' : fmM} {k a : Nat} (h : tbad M M' k a) (hF : dfFr M0 M) : tbad M0 M' k a := ⟨h.1, h.2.1, h.2.2.1, hF.trans h.2.2.2.1, h.2.2.2.2⟩
theorem tbad.nz {M M' : fmM} {k a : Nat} (h : tbad M M' k a) : ¬ M'.1 1 4 = 0 := by
  intro h9
  have h1 := h.1
  have h2 := h.2.2.1
  rw [h9] at h1
  have h3 : (0 : Int32).toInt = 0 := by decide
  omega
theorem tok.fr {M0 M M' : fmM} {tx : tX} {n q : Nat} {D : dD} (h : tok M M' tx n q D) (hF : dfFr M0 M) : tok M0 M' tx n q D := ⟨h.1, h.2.1, h.2.2.1, h.2.2.2.1, hF.trans h.2.2.2.2⟩
theorem xdw.of {b : Nat} {M M' : fmM} {D : dD} (h : xdw b M D) (he : ∀ k j, b ≤ k → k < b + 10 → M'.1 k j = M.1 k j) : xdw b M' D := by
  obtain ⟨⟨h1, h2, h3, h4, h5, h6⟩, h7, h8⟩ := h
  refine ⟨⟨?_, ?_, ?_, ?_, ?_, ?_⟩, fun i hi j hj => ?_, fun i hi j hj => ?_⟩
  · rw [he _ _ (by omega) (by omega)]; exact h1
  · rw [he _ _ (by omega) (by omega)]; exact h2
  · rw [he _ _ (by omega) (by omega)]; exact h3
  · rw [he _ _ (by omega) (by omega)]; exact h4
  · rw [he _ _ (by omega) (by omega)]; exact h5
  · rw [he _ _ (by omega) (by omega)]; exact h6
  · rw [he _ _ (by omega) (by omega)]; exact h7 i hi j hj
  · rw [he _ _ (by omega) (by omega)]; exact h8 i hi j hj
theorem xdw.xd {M M' : fmM} {D : dD} (h : xdw 13 M D) (hF : xdFr M M') : xdw 13 M' D := h.of (fun k j a _ => (hF.1 k j (by omega)).1)
def clLife (tx : tX) (D : dD) (q : Nat) : tR dD := spBind (spNum tx 0 110 q) fun a q => spBind (spNum tx 0 64 q) fun b q => spBind (spNum tx 1 99 q) fun c q => spBind (spNum tx 1 9 q) fun d q => .inr ((D.1 + 1, dRow D.2.1 D.1 [a, b, c, d, -1, -1], D.2.2), q)
def clFact (tx : tX) (D : dD) (q : Nat) : tR dD := spBind (spNum tx 0 ((D.1 : Int) - 1) q) fun a q => spBind (spNum tx 0 5 q) fun b q => spBind (spNum tx 1 60 q) fun c q => .inr ((D.1, D.2.1, D.2.2.1 + 1, dRow D.2.2.2.1 D.2.2.1 [a, b, c], D.2.2.2.2), q)
def clHas (tx : tX) (D : dD) (q : Nat) : tR dD := spBind (spNum tx 0 ((D.1 : Int) - 1) q) fun a q => spBind (spNum tx 0 40 q) fun b q => .inr ((D.1, dSet D.2.1 a 4 b, D.2.2), q)
def clBy (tx : tX) (D : dD) (q : Nat) : tR dD := spBind (spNum tx 0 ((D.1 : Int) - 1) q) fun a q => spBind (spNum tx 0 ((D.1 : Int) - 1) q) fun b q2 => if a = b then .inl (2, sk tx q) else .inr ((D.1, dSet D.2.1 a 5 b, D.2.2), q2)
def clRule (tx : tX) (D : dD) (k q : Nat) : tR dD := spBind (spNum tx (dLo k) (dHi k) q) fun v q => .inr ((D.1, D.2.1, D.2.2.1, D.2.2.2.1, fun k' => if k' = k then (v : Int) else D.2.2.2.2 k'), q)
def clB (tx : tX) (D : dD) (k q : Nat) : tR dD := match k with
  | 0 => clLife tx D q
  | 1 => clFact tx D q
  | 6 => clHas tx D q
  | 7 => clBy tx D q
  | k => clRule tx D k q
def cBody (tx : tX) (c : Nat) (D : dD) (p : Nat) : tR dD := match dwK (wd tx (sk tx p)) with
  | none => .inl (1, sk tx p)
  | some k => if c = 60 ∨ (k = 0 ∧ D.1 = 8) ∨ (k = 1 ∧ D.2.2.1 = 24) then .inl (3, sk tx p) else clB tx D k (sp tW tx (sk tx p))
def sgB (tx : tX) (D : dD) (q : Nat) : tR dD := spBind (spSign tx 59 q) fun _ q => .inr (D, q)
theorem spBind_a {α β γ : Type} (r : tR α) (f : α → Nat → tR β) (g : β → Nat → tR γ) : spBind (spBind r f) g = spBind r (fun a q => spBind (f a q) g) := by
  rcases r with e | ⟨v, q⟩ <;> rfl
theorem B_life (tx : tX) (D : dD) (q : Nat) : spLife tx D q = spBind (clLife tx D q) (sgB tx) := by
  unfold spLife clLife
  simp only [spBind_a]
  rfl
theorem B_fact (tx : tX) (D : dD) (q : Nat) : spFact tx D q = spBind (clFact tx D q) (sgB tx) := by
  unfold spFact clFact
  simp only [spBind_a]
  rfl
theorem B_has (tx : tX) (D : dD) (q : Nat) : spHas tx D q = spBind (clHas tx D q) (sgB tx) := by
  unfold spHas clHas
  simp only [spBind_a]
  rfl
theorem B_rule (tx : tX) (D : dD) (k q : Nat) : spRule tx D k q = spBind (clRule tx D k q) (sgB tx) := by
  unfold spRule clRule
  simp only [spBind_a]
  rfl
theorem B_by (tx : tX) (D : dD) (q : Nat) : spBy tx D q = spBind (clBy tx D q) (sgB tx) := by
  unfold spBy clBy
  simp only [spBind_a]
  congr 1
  funext a q
  congr 1
  funext b q2
  split <;> rfl
theorem spClause_B (tx : tX) (c : Nat) (D : dD) (p : Nat) : spClause tx c D p = spBind (cBody tx c D p) (sgB tx) := by
  unfold spClause cBody
  cases hk : dwK (wd tx (sk tx p)) with
  | none => rfl
  | some k =>
    by_cases hf : c = 60 ∨ (k = 0 ∧ D.1 = 8) ∨ (k = 1 ∧ D.2.2.1 = 24)
    · simp only [if_pos hf]
      rfl
    · simp only [if_neg hf]
      clear hk hf
      rcases k with _ | _ | _ | _ | _ | _ | _ | _ | k
      · exact B_life tx D _
      · exact B_fact tx D _
      · exact B_rule tx D 2 _
      · exact B_rule tx D 3 _
      · exact B_rule tx D 4 _
      · exact B_rule tx D 5 _
      · exact B_has tx D _
      · exact B_by tx D _
      · exact B_rule tx D (k + 8) _
theorem cBody_sk {tx : tX} {n c p : Nat} {D : dD} (ht : tOk tx n) (hp : p ≤ n) : cBody tx c D (sk tx p) = cBody tx c D p := by
  unfold cBody
  rw [sk_sk ht hp]
def kkF (j : Nat) : Nat := [0, 6, 7, 1, 2, 3, 4, 5].getD j 9
theorem dwK_of {u : List Int} {j : Nat} (h : wdI wsTold u 0 = some j) : dwK u = some (kkF j) ∧ j < 8 := by
  by_cases e0 : u = [108, 105, 102, 101]
  · subst e0
    have e9 : wdI wsTold [108, 105, 102, 101] 0 = some 0 := by decide
    rw [e9] at h
    cases h
    exact ⟨by decide, by decide⟩
  by_cases e1 : u = [104, 97, 115]
  · subst e1
    have e9 : wdI wsTold [104, 97, 115] 0 = some 1 := by decide
    rw [e9] at h
    cases h
    exact ⟨by decide, by decide⟩
  by_cases e2 : u = [98, 121]
  · subst e2
    have e9 : wdI wsTold [98, 121] 0 = some 2 := by decide
    rw [e9] at h
    cases h
    exact ⟨by decide, by decide⟩
  by_cases e3 : u = [102, 97, 99, 116]
  · subst e3
    have e9 : wdI wsTold [102, 97, 99, 116] 0 = some 3 := by decide
    rw [e9] at h
    cases h
    exact ⟨by decide, by decide⟩
  by_cases e4 : u = [104, 111, 117, 114, 115]
  · subst e4
    have e9 : wdI wsTold [104, 111, 117, 114, 115] 0 = some 4 := by decide
    rw [e9] at h
    cases h
    exact ⟨by decide, by decide⟩
  by_cases e5 : u = [108, 97, 99, 107]
  · subst e5
    have e9 : wdI wsTold [108, 97, 99, 107] 0 = some 5 := by decide
    rw [e9] at h
    cases h
    exact ⟨by decide, by decide⟩
  by_cases e6 : u = [119, 114, 111, 110, 103]
  · subst e6
    have e9 : wdI wsTold [119, 114, 111, 110, 103] 0 = some 6 := by decide
    rw [e9] at h
    cases h
    exact ⟨by decide, by decide⟩
  by_cases e7 : u = [104, 97, 108, 102]
  · subst e7
    have e9 : wdI wsTold [104, 97, 108, 102] 0 = some 7 := by decide
    rw [e9] at h
    cases h
    exact ⟨by decide, by decide⟩
  have e9 : wdI wsTold u 0 = none := by simp only [wdI, wsTold, e0, e1, e2, e3, e4, e5, e6, e7, if_false]
  rw [e9] at h
  cases h
theorem dwK_no {u : List Int} (h : wdI wsTold u 0 = none) : dwK u = none := by
  by_cases e0 : u = [108, 105, 102, 101]
  · subst e0
    have e9 : wdI wsTold [108, 105, 102, 101] 0 = some 0 := by decide
    rw [e9] at h
    cases h
  by_cases e1 : u = [104, 97, 115]
  · subst e1
    have e9 : wdI wsTold [104, 97, 115] 0 = some 1 := by decide
    rw [e9] at h
    cases h
  by_cases e2 : u = [98, 121]
  · subst e2
    have e9 : wdI wsTold [98, 121] 0 = some 2 := by decide
    rw [e9] at h
    cases h
  by_cases e3 : u = [102, 97, 99, 116]
  · subst e3
    have e9 : wdI wsTold [102, 97, 99, 116] 0 = some 3 := by decide
    rw [e9] at h
    cases h
  by_cases e4 : u = [104, 111, 117, 114, 115]
  · subst e4
    have e9 : wdI wsTold [104, 111, 117, 114, 115] 0 = some 4 := by decide
    rw [e9] at h
    cases h
  by_cases e5 : u = [108, 97, 99, 107]
  · subst e5
    have e9 : wdI wsTold [108, 97, 99, 107] 0 = some 5 := by decide
    rw [e9] at h
    cases h
  by_cases e6 : u = [119, 114, 111, 110, 103]
  · subst e6
    have e9 : wdI wsTold [119, 114, 111, 110, 103] 0 = some 6 := by decide
    rw [e9] at h
    cases h
  by_cases e7 : u = [104, 97, 108, 102]
  · subst e7
    have e9 : wdI wsTold [104, 97, 108, 102] 0 = some 7 := by decide
    rw [e9] at h
    cases h
  simp only [dwK, e0, e1, e2, e3, e4, e5, e6, e7, if_false]
abbrev cc_X7_takeNumber_22 : scC := (qX7_takeNumber, 2, [(0, 0), (110, 110), (1, 3)], [.inr (.inr (.inl [1])), .inl (some 0, 0), .inl (some 1, 0)], [((1, 4), (some 2, 0))], [(1, (0, 110), [], [], [((1, 4), (1, 3))]), (1, ((-1), (-1)), [], [], [((1, 4), (1, 3))])], [(1, 3, 1)])
set_option maxRecDepth 20000 in
abbrev xx_X7_takeNumber_22 : scX := (Tx, invX, lnX7, [(35, 0, 7, cc_X7_fail_3), (39, 0, 7, cc_X7_nextPlace_0)], cc_X7_takeNumber_22)
set_option maxRecDepth 20000 in
theorem hh_X7_takeNumber_22 : scH Tx invX cc_X7_takeNumber_22 := scCheck_ok (X := xx_X7_takeNumber_22) (nodes := [(8, ([(0, 0), (110, 110), (0, 600), ((-2147483648), 1000000), (1, 3), (0, 600), (0, 600)], [some (.inr (.inr (.inl [1]))), some (.inl (some 0, 0)), some (.inl (some 1, 0)), some (.inl (some 2, 0)), some (.inl (some 3, 0))], [], [((1, 4), (some 4, 0)), ((1, 3), (some 5, 0)), ((1, 2), (some 6, 0))]), ([0, 0, 0, 0, 0, (-2)], 1200))]) (fuel := 4000) ⟨lqX7, fa_cons (⟨⟨2, _, pcv_X7_35, rfl⟩, hh_X7_fail_3⟩) (fa_cons (⟨⟨0, _, pcv_X7_39, rfl⟩, hh_X7_nextPlace_0⟩) (fa_nil))⟩ dtX7_takeNumber (by decide +kernel)
theorem s_numF110 {M : fmM} {Q : fmR → fmM → Prop} {x1 : Int32} (bx1 : 0 ≤ x1.toInt ∧ x1.toInt ≤ 0) {x2 : Int32} (bx2 : 110 ≤ x2.toInt ∧ x2.toInt ≤ 110) (f1_4 : 1 ≤ (M.1 1 4).toInt ∧ (M.1 1 4).toInt ≤ 3) (hI : scInv Tx invX M) (q0 : ∀ (n : Int32) (M' : fmM), (0 ≤ n.toInt ∧ n.toInt ≤ 110) → (1 ≤ (M'.1 1 4).toInt ∧ (M'.1 1 4).toInt ≤ 3) → scInv Tx invX M' → scFr [(1, 3, 1)] M M' → Q (.inl (some (.int n))) M') (q1 : ∀ (n : Int32) (M' : fmM), ((-1) ≤ n.toInt ∧ n.toInt ≤ (-1)) → (1 ≤ (M'.1 1 4).toInt ∧ (M'.1 1 4).toInt ≤ 3) → scInv Tx invX M' → scFr [(1, 3, 1)] M M' → Q (.inl (some (.int n))) M') : pvGood Tx 2 qX7_takeNumber [.ref 1, .int x1, .int x2] M Q := (hh_X7_takeNumber_22 M [x1.toInt, x2.toInt, (M.1 1 4).toInt] [.ref 1, .int x1, .int x2] (scEk.c1 bx1 (scEk.c1 bx2 (scEk.c1 f1_4 scEk.n0))) ⟨⟨1, by simp, rfl⟩, ⟨x1, rfl, scEv.at rfl⟩, ⟨x2, rfl, scEv.at rfl⟩, trivial⟩ (fun f hf => by rw [List.mem_singleton.mp hf]; exact scEv.at rfl) hI).imp (fun r M' h => by
  obtain ⟨⟨o, ho, hr, hf9, hm⟩, h1, h2⟩ := h
  rcases List.mem_cons.mp ho with rfl | ho
  · obtain ⟨n, rfl, c1, c2⟩ := hr; exact q0 n M' ⟨c1, c2⟩ (have h9 := hm _ List.mem_cons_self; h9) h1 h2
  rcases List.mem_cons.mp ho with rfl | ho
  · obtain ⟨n, rfl, c1, c2⟩ := hr; exact q1 n M' ⟨c1, c2⟩ (have h9 := hm _ List.mem_cons_self; h9) h1 h2
  · cases ho)
theorem s_numF64 {M : fmM} {Q : fmR → fmM → Prop} {x1 : Int32} (bx1 : 0 ≤ x1.toInt ∧ x1.toInt ≤ 0) {x2 : Int32} (bx2 : 64 ≤ x2.toInt ∧ x2.toInt ≤ 64) (f1_4 : 1 ≤ (M.1 1 4).toInt ∧ (M.1 1 4).toInt ≤ 3) (hI : scInv Tx invX M) (q0 : ∀ (n : Int32) (M' : fmM), (0 ≤ n.toInt ∧ n.toInt ≤ 64) → (1 ≤ (M'.1 1 4).toInt ∧ (M'.1 1 4).toInt ≤ 3) → scInv Tx invX M' → scFr [(1, 3, 1)] M M' → Q (.inl (some (.int n))) M') (q1 : ∀ (n : Int32) (M' : fmM), ((-1) ≤ n.toInt ∧ n.toInt ≤ (-1)) → (1 ≤ (M'.1 1 4).toInt ∧ (M'.1 1 4).toInt ≤ 3) → scInv Tx invX M' → scFr [(1, 3, 1)] M M' → Q (.inl (some (.int n))) M') : pvGood Tx 2 qX7_takeNumber [.ref 1, .int x1, .int x2] M Q := (hh_X7_takeNumber_1 M [x1.toInt, x2.toInt, (M.1 1 4).toInt] [.ref 1, .int x1, .int x2] (scEk.c1 bx1 (scEk.c1 bx2 (scEk.c1 f1_4 scEk.n0))) ⟨⟨1, by simp, rfl⟩, ⟨x1, rfl, scEv.at rfl⟩, ⟨x2, rfl, scEv.at rfl⟩, trivial⟩ (fun f hf => by rw [List.mem_singleton.mp hf]; exact scEv.at rfl) hI).imp (fun r M' h => by
  obtain ⟨⟨o, ho, hr, hf9, hm⟩, h1, h2⟩ := h
  rcases List.mem_cons.mp ho with rfl | ho
  · obtain ⟨n, rfl, c1, c2⟩ := hr; exact q0 n M' ⟨c1, c2⟩ (have h9 := hm _ List.mem_cons_self; h9) h1 h2
  rcases List.mem_cons.mp ho with rfl | ho
  · obtain ⟨n, rfl, c1, c2⟩ := hr; exact q1 n M' ⟨c1, c2⟩ (have h9 := hm _ List.mem_cons_self; h9) h1 h2
  · cases ho)
theorem s_numF99 {M : fmM} {Q : fmR → fmM → Prop} {x1 : Int32} (bx1 : 1 ≤ x1.toInt ∧ x1.toInt ≤ 1) {x2 : Int32} (bx2 : 99 ≤ x2.toInt ∧ x2.toInt ≤ 99) (f1_4 : 1 ≤ (M.1 1 4).toInt ∧ (M.1 1 4).toInt ≤ 3) (hI : scInv Tx invX M) (q0 : ∀ (n : Int32) (M' : fmM), (1 ≤ n.toInt ∧ n.toInt ≤ 99) → (1 ≤ (M'.1 1 4).toInt ∧ (M'.1 1 4).toInt ≤ 3) → scInv Tx invX M' → scFr [(1, 3, 1)] M M' → Q (.inl (some (.int n))) M') (q1 : ∀ (n : Int32) (M' : fmM), ((-1) ≤ n.toInt ∧ n.toInt ≤ (-1)) → (1 ≤ (M'.1 1 4).toInt ∧ (M'.1 1 4).toInt ≤ 3) → scInv Tx invX M' → scFr [(1, 3, 1)] M M' → Q (.inl (some (.int n))) M') : pvGood Tx 2 qX7_takeNumber [.ref 1, .int x1, .int x2] M Q := (hh_X7_takeNumber_2 M [x1.toInt, x2.toInt, (M.1 1 4).toInt] [.ref 1, .int x1, .int x2] (scEk.c1 bx1 (scEk.c1 bx2 (scEk.c1 f1_4 scEk.n0))) ⟨⟨1, by simp, rfl⟩, ⟨x1, rfl, scEv.at rfl⟩, ⟨x2, rfl, scEv.at rfl⟩, trivial⟩ (fun f hf => by rw [List.mem_singleton.mp hf]; exact scEv.at rfl) hI).imp (fun r M' h => by
  obtain ⟨⟨o, ho, hr, hf9, hm⟩, h1, h2⟩ := h
  rcases List.mem_cons.mp ho with rfl | ho
  · obtain ⟨n, rfl, c1, c2⟩ := hr; exact q0 n M' ⟨c1, c2⟩ (have h9 := hm _ List.mem_cons_self; h9) h1 h2
  rcases List.mem_cons.mp ho with rfl | ho
  · obtain ⟨n, rfl, c1, c2⟩ := hr; exact q1 n M' ⟨c1, c2⟩ (have h9 := hm _ List.mem_cons_self; h9) h1 h2
  · cases ho)
theorem s_numF9 {M : fmM} {Q : fmR → fmM → Prop} {x1 : Int32} (bx1 : 1 ≤ x1.toInt ∧ x1.toInt ≤ 1) {x2 : Int32} (bx2 : 9 ≤ x2.toInt ∧ x2.toInt ≤ 9) (f1_4 : 1 ≤ (M.1 1 4).toInt ∧ (M.1 1 4).toInt ≤ 3) (hI : scInv Tx invX M) (q0 : ∀ (n : Int32) (M' : fmM), (1 ≤ n.toInt ∧ n.toInt ≤ 9) → (1 ≤ (M'.1 1 4).toInt ∧ (M'.1 1 4).toInt ≤ 3) → scInv Tx invX M' → scFr [(1, 3, 1)] M M' → Q (.inl (some (.int n))) M') (q1 : ∀ (n : Int32) (M' : fmM), ((-1) ≤ n.toInt ∧ n.toInt ≤ (-1)) → (1 ≤ (M'.1 1 4).toInt ∧ (M'.1 1 4).toInt ≤ 3) → scInv Tx invX M' → scFr [(1, 3, 1)] M M' → Q (.inl (some (.int n))) M') : pvGood Tx 2 qX7_takeNumber [.ref 1, .int x1, .int x2] M Q := (hh_X7_takeNumber_3 M [x1.toInt, x2.toInt, (M.1 1 4).toInt] [.ref 1, .int x1, .int x2] (scEk.c1 bx1 (scEk.c1 bx2 (scEk.c1 f1_4 scEk.n0))) ⟨⟨1, by simp, rfl⟩, ⟨x1, rfl, scEv.at rfl⟩, ⟨x2, rfl, scEv.at rfl⟩, trivial⟩ (fun f hf => by rw [List.mem_singleton.mp hf]; exact scEv.at rfl) hI).imp (fun r M' h => by
  obtain ⟨⟨o, ho, hr, hf9, hm⟩, h1, h2⟩ := h
  rcases List.mem_cons.mp ho with rfl | ho
  · obtain ⟨n, rfl, c1, c2⟩ := hr; exact q0 n M' ⟨c1, c2⟩ (have h9 := hm _ List.mem_cons_self; h9) h1 h2
  rcases List.mem_cons.mp ho with rfl | ho
  · obtain ⟨n, rfl, c1, c2⟩ := hr; exact q1 n M' ⟨c1, c2⟩ (have h9 := hm _ List.mem_cons_self; h9) h1 h2
  · cases ho)
theorem s_numF7 {M : fmM} {Q : fmR → fmM → Prop} {x1 : Int32} (bx1 : 0 ≤ x1.toInt ∧ x1.toInt ≤ 0) {x2 : Int32} (bx2 : (-1) ≤ x2.toInt ∧ x2.toInt ≤ 7) (f1_4 : 1 ≤ (M.1 1 4).toInt ∧ (M.1 1 4).toInt ≤ 3) (hI : scInv Tx invX M) (q0 : ∀ (n : Int32) (M' : fmM), (0 ≤ n.toInt ∧ n.toInt ≤ 7) → (1 ≤ (M'.1 1 4).toInt ∧ (M'.1 1 4).toInt ≤ 3) → scInv Tx invX M' → scFr [(1, 3, 1)] M M' → Q (.inl (some (.int n))) M') (q1 : ∀ (n : Int32) (M' : fmM), ((-1) ≤ n.toInt ∧ n.toInt ≤ (-1)) → (1 ≤ (M'.1 1 4).toInt ∧ (M'.1 1 4).toInt ≤ 3) → scInv Tx invX M' → scFr [(1, 3, 1)] M M' → Q (.inl (some (.int n))) M') : pvGood Tx 2 qX7_takeNumber [.ref 1, .int x1, .int x2] M Q := (hh_X7_takeNumber_12 M [x1.toInt, x2.toInt, (M.1 1 4).toInt] [.ref 1, .int x1, .int x2] (scEk.c1 bx1 (scEk.c1 bx2 (scEk.c1 f1_4 scEk.n0))) ⟨⟨1, by simp, rfl⟩, ⟨x1, rfl, scEv.at rfl⟩, ⟨x2, rfl, scEv.at rfl⟩, trivial⟩ (fun f hf => by rw [List.mem_singleton.mp hf]; exact scEv.at rfl) hI).imp (fun r M' h => by
  obtain ⟨⟨o, ho, hr, hf9, hm⟩, h1, h2⟩ := h
  rcases List.mem_cons.mp ho with rfl | ho
  · obtain ⟨n, rfl, c1, c2⟩ := hr; exact q0 n M' ⟨c1, c2⟩ (have h9 := hm _ List.mem_cons_self; h9) h1 h2
  rcases List.mem_cons.mp ho with rfl | ho
  · obtain ⟨n, rfl, c1, c2⟩ := hr; exact q1 n M' ⟨c1, c2⟩ (have h9 := hm _ List.mem_cons_self; h9) h1 h2
  · cases ho)
theorem s_numF40 {M : fmM} {Q : fmR → fmM → Prop} {x1 : Int32} (bx1 : 0 ≤ x1.toInt ∧ x1.toInt ≤ 0) {x2 : Int32} (bx2 : 40 ≤ x2.toInt ∧ x2.toInt ≤ 40) (f1_4 : 1 ≤ (M.1 1 4).toInt ∧ (M.1 1 4).toInt ≤ 3) (hI : scInv Tx invX M) (q0 : ∀ (n : Int32) (M' : fmM), (0 ≤ n.toInt ∧ n.toInt ≤ 40) → (1 ≤ (M'.1 1 4).toInt ∧ (M'.1 1 4).toInt ≤ 3) → scInv Tx invX M' → scFr [(1, 3, 1)] M M' → Q (.inl (some (.int n))) M') (q1 : ∀ (n : Int32) (M' : fmM), ((-1) ≤ n.toInt ∧ n.toInt ≤ (-1)) → (1 ≤ (M'.1 1 4).toInt ∧ (M'.1 1 4).toInt ≤ 3) → scInv Tx invX M' → scFr [(1, 3, 1)] M M' → Q (.inl (some (.int n))) M') : pvGood Tx 2 qX7_takeNumber [.ref 1, .int x1, .int x2] M Q := (hh_X7_takeNumber_13 M [x1.toInt, x2.toInt, (M.1 1 4).toInt] [.ref 1, .int x1, .int x2] (scEk.c1 bx1 (scEk.c1 bx2 (scEk.c1 f1_4 scEk.n0))) ⟨⟨1, by simp, rfl⟩, ⟨x1, rfl, scEv.at rfl⟩, ⟨x2, rfl, scEv.at rfl⟩, trivial⟩ (fun f hf => by rw [List.mem_singleton.mp hf]; exact scEv.at rfl) hI).imp (fun r M' h => by
  obtain ⟨⟨o, ho, hr, hf9, hm⟩, h1, h2⟩ := h
  rcases List.mem_cons.mp ho with rfl | ho
  · obtain ⟨n, rfl, c1, c2⟩ := hr; exact q0 n M' ⟨c1, c2⟩ (have h9 := hm _ List.mem_cons_self; h9) h1 h2
  rcases List.mem_cons.mp ho with rfl | ho
  · obtain ⟨n, rfl, c1, c2⟩ := hr; exact q1 n M' ⟨c1, c2⟩ (have h9 := hm _ List.mem_cons_self; h9) h1 h2
  · cases ho)
theorem s_numF5 {M : fmM} {Q : fmR → fmM → Prop} {x1 : Int32} (bx1 : 0 ≤ x1.toInt ∧ x1.toInt ≤ 0) {x2 : Int32} (bx2 : 5 ≤ x2.toInt ∧ x2.toInt ≤ 5) (f1_4 : 1 ≤ (M.1 1 4).toInt ∧ (M.1 1 4).toInt ≤ 3) (hI : scInv Tx invX M) (q0 : ∀ (n : Int32) (M' : fmM), (0 ≤ n.toInt ∧ n.toInt ≤ 5) → (1 ≤ (M'.1 1 4).toInt ∧ (M'.1 1 4).toInt ≤ 3) → scInv Tx invX M' → scFr [(1, 3, 1)] M M' → Q (.inl (some (.int n))) M') (q1 : ∀ (n : Int32) (M' : fmM), ((-1) ≤ n.toInt ∧ n.toInt ≤ (-1)) → (1 ≤ (M'.1 1 4).toInt ∧ (M'.1 1 4).toInt ≤ 3) → scInv Tx invX M' → scFr [(1, 3, 1)] M M' → Q (.inl (some (.int n))) M') : pvGood Tx 2 qX7_takeNumber [.ref 1, .int x1, .int x2] M Q := (hh_X7_takeNumber_8 M [x1.toInt, x2.toInt, (M.1 1 4).toInt] [.ref 1, .int x1, .int x2] (scEk.c1 bx1 (scEk.c1 bx2 (scEk.c1 f1_4 scEk.n0))) ⟨⟨1, by simp, rfl⟩, ⟨x1, rfl, scEv.at rfl⟩, ⟨x2, rfl, scEv.at rfl⟩, trivial⟩ (fun f hf => by rw [List.mem_singleton.mp hf]; exact scEv.at rfl) hI).imp (fun r M' h => by
  obtain ⟨⟨o, ho, hr, hf9, hm⟩, h1, h2⟩ := h
  rcases List.mem_cons.mp ho with rfl | ho
  · obtain ⟨n, rfl, c1, c2⟩ := hr; exact q0 n M' ⟨c1, c2⟩ (have h9 := hm _ List.mem_cons_self; h9) h1 h2
  rcases List.mem_cons.mp ho with rfl | ho
  · obtain ⟨n, rfl, c1, c2⟩ := hr; exact q1 n M' ⟨c1, c2⟩ (have h9 := hm _ List.mem_cons_self; h9) h1 h2
  · cases ho)
theorem s_numF60 {M : fmM} {Q : fmR → fmM → Prop} {x1 : Int32} (bx1 : 1 ≤ x1.toInt ∧ x1.toInt ≤ 1) {x2 : Int32} (bx2 : 60 ≤ x2.toInt ∧ x2.toInt ≤ 60) (f1_4 : 1 ≤ (M.1 1 4).toInt ∧ (M.1 1 4).toInt ≤ 3) (hI : scInv Tx invX M) (q0 : ∀ (n : Int32) (M' : fmM), (1 ≤ n.toInt ∧ n.toInt ≤ 60) → (1 ≤ (M'.1 1 4).toInt ∧ (M'.1 1 4).toInt ≤ 3) → scInv Tx invX M' → scFr [(1, 3, 1)] M M' → Q (.inl (some (.int n))) M') (q1 : ∀ (n : Int32) (M' : fmM), ((-1) ≤ n.toInt ∧ n.toInt ≤ (-1)) → (1 ≤ (M'.1 1 4).toInt ∧ (M'.1 1 4).toInt ≤ 3) → scInv Tx invX M' → scFr [(1, 3, 1)] M M' → Q (.inl (some (.int n))) M') : pvGood Tx 2 qX7_takeNumber [.ref 1, .int x1, .int x2] M Q := (hh_X7_takeNumber_9 M [x1.toInt, x2.toInt, (M.1 1 4).toInt] [.ref 1, .int x1, .int x2] (scEk.c1 bx1 (scEk.c1 bx2 (scEk.c1 f1_4 scEk.n0))) ⟨⟨1, by simp, rfl⟩, ⟨x1, rfl, scEv.at rfl⟩, ⟨x2, rfl, scEv.at rfl⟩, trivial⟩ (fun f hf => by rw [List.mem_singleton.mp hf]; exact scEv.at rfl) hI).imp (fun r M' h => by
  obtain ⟨⟨o, ho, hr, hf9, hm⟩, h1, h2⟩ := h
  rcases List.mem_cons.mp ho with rfl | ho
  · obtain ⟨n, rfl, c1, c2⟩ := hr; exact q0 n M' ⟨c1, c2⟩ (have h9 := hm _ List.mem_cons_self; h9) h1 h2
  rcases List.mem_cons.mp ho with rfl | ho
  · obtain ⟨n, rfl, c1, c2⟩ := hr; exact q1 n M' ⟨c1, c2⟩ (have h9 := hm _ List.mem_cons_self; h9) h1 h2
  · cases ho)
set_option maxRecDepth 20000 in
theorem xf_readLife34 {Q : fmR → fmM → Prop} {M0 M : fmM} {k a : Nat} {x2 x3 x4 x5 : Int32} (bb : xdBad M0 M k a) (hI9 : (M.1 13 9).toInt ≤ 8 ∧ 0 ≤ (M.1 13 9).toInt) (hq : ∀ M2 : fmM, xdBad M0 M2 k a → Q (.inl (some (.int 0))) M2) : pvEv Tx 3 qX8_readLife 34 [some (.ref 13), some (.ref 1), some (.int x2), some (.int x3), some (.int x4), some (.int x5)] [] M Q := by
  refine pv_aloadn (pc := 34) (n := 1) 1 rfl rfl (fm_dec dtX8_readLife 20 rfl) ?_
  refine pv_invV0 (k := 1) (d' := 0) (pc := 35) pcv_X8_117 (by decide) rfl (Nat.le_of_ble_eq_true rfl) (by decide) (fm_dec dtX8_readLife 21 rfl) ?_
  refine c_xfailed (fun h9 => absurd h9 bb.nz) (fun _ => ?_) 
  refine pv_then1 ?_
  refine pv_if_ne (pc := 38) 50 (by decide) (fm_dec dtX8_readLife 22 rfl) (fun _ => ?_) (fun hc38 => by exfalso; revert hc38; decide)
  refine pv_iconst (pc := 50) (v := 0) (by decide) (fm_dec dtX8_readLife 27 rfl) ?_
  exact pv_zreturn (pc := 51) rfl (by first | exact Or.inr rfl | exact Or.inl rfl) (fm_dec dtX8_readLife 28 rfl) (hq _ bb)
set_option maxRecDepth 20000 in
theorem xf_readLife25 {Q : fmR → fmM → Prop} {M0 M : fmM} {k a : Nat} {x2 x3 x4 : Int32} {v5 : Option Value} (bb : xdBad M0 M k a) (hI9 : (M.1 13 9).toInt ≤ 8 ∧ 0 ≤ (M.1 13 9).toInt) (hq : ∀ M2 : fmM, xdBad M0 M2 k a → Q (.inl (some (.int 0))) M2) : pvEv Tx 3 qX8_readLife 25 [some (.ref 13), some (.ref 1), some (.int x2), some (.int x3), some (.int x4), v5] [] M Q := by
  refine pv_aloadn (pc := 25) (n := 1) 1 rfl rfl (fm_dec dtX8_readLife 15 rfl) ?_
  refine pv_iconst (pc := 26) (v := 1) (by decide) (fm_dec dtX8_readLife 16 rfl) ?_
  refine pv_bipush (pc := 27) (v := 9) (by decide) (fm_dec dtX8_readLife 17 rfl) ?_
  refine pv_invV2 (k := 1) (d' := 2) (pc := 29) pcv_X8_113 (by decide) rfl (Nat.le_of_ble_eq_true rfl) (by decide) (fm_dec dtX8_readLife 18 rfl) ?_
  refine s_numF9 (by decide) (by decide) bb.f13 bb.2.2.2.2 (fun n29 M29 c29 m29 hI29 f29 => ?_) (fun n29 M29 c29 m29 hI29 f29 => ?_)  
  · refine pv_then1 ?_
    refine pv_istore (pc := 32) (i := 5) (by decide) rfl (fm_dec dtX8_readLife 19 rfl) ?_
    dsimp only [List.set_cons_zero, List.set_cons_succ]
    exact xf_readLife34 (bb.go f29 hI29) (by rw [(f29 13 9 rfl).1]; exact hI9) hq
  · refine pv_then1 ?_
    refine pv_istore (pc := 32) (i := 5) (by decide) rfl (fm_dec dtX8_readLife 19 rfl) ?_
    dsimp only [List.set_cons_zero, List.set_cons_succ]
    exact xf_readLife34 (bb.go f29 hI29) (by rw [(f29 13 9 rfl).1]; exact hI9) hq
set_option maxRecDepth 20000 in
theorem xf_readLife16 {Q : fmR → fmM → Prop} {M0 M : fmM} {k a : Nat} {x2 x3 : Int32} {v4 v5 : Option Value} (bb : xdBad M0 M k a) (hI9 : (M.1 13 9).toInt ≤ 8 ∧ 0 ≤ (M.1 13 9).toInt) (hq : ∀ M2 : fmM, xdBad M0 M2 k a → Q (.inl (some (.int 0))) M2) : pvEv Tx 3 qX8_readLife 16 [some (.ref 13), some (.ref 1), some (.int x2), some (.int x3), v4, v5] [] M Q := by
  refine pv_aloadn (pc := 16) (n := 1) 1 rfl rfl (fm_dec dtX8_readLife 10 rfl) ?_
  refine pv_iconst (pc := 17) (v := 1) (by decide) (fm_dec dtX8_readLife 11 rfl) ?_
  refine pv_bipush (pc := 18) (v := 99) (by decide) (fm_dec dtX8_readLife 12 rfl) ?_
  refine pv_invV2 (k := 1) (d' := 2) (pc := 20) pcv_X8_113 (by decide) rfl (Nat.le_of_ble_eq_true rfl) (by decide) (fm_dec dtX8_readLife 13 rfl) ?_
  refine s_numF99 (by decide) (by decide) bb.f13 bb.2.2.2.2 (fun n20 M20 c20 m20 hI20 f20 => ?_) (fun n20 M20 c20 m20 hI20 f20 => ?_)  
  · refine pv_then1 ?_
    refine pv_istore (pc := 23) (i := 4) (by decide) rfl (fm_dec dtX8_readLife 14 rfl) ?_
    dsimp only [List.set_cons_zero, List.set_cons_succ]
    exact xf_readLife25 (bb.go f20 hI20) (by rw [(f20 13 9 rfl).1]; exact hI9) hq
  · refine pv_then1 ?_
    refine pv_istore (pc := 23) (i := 4) (by decide) rfl (fm_dec dtX8_readLife 14 rfl) ?_
    dsimp only [List.set_cons_zero, List.set_cons_succ]
    exact xf_readLife25 (bb.go f20 hI20) (by rw [(f20 13 9 rfl).1]; exact hI9) hq
set_option maxRecDepth 20000 in
theorem xf_readLife8 {Q : fmR → fmM → Prop} {M0 M : fmM} {k a : Nat} {x2 : Int32} {v3 v4 v5 : Option Value} (bb : xdBad M0 M k a) (hI9 : (M.1 13 9).toInt ≤ 8 ∧ 0 ≤ (M.1 13 9).toInt) (hq : ∀ M2 : fmM, xdBad M0 M2 k a → Q (.inl (some (.int 0))) M2) : pvEv Tx 3 qX8_readLife 8 [some (.ref 13), some (.ref 1), some (.int x2), v3, v4, v5] [] M Q := by
  refine pv_aloadn (pc := 8) (n := 1) 1 rfl rfl (fm_dec dtX8_readLife 5 rfl) ?_
  refine pv_iconst (pc := 9) (v := 0) (by decide) (fm_dec dtX8_readLife 6 rfl) ?_
  refine pv_bipush (pc := 10) (v := 64) (by decide) (fm_dec dtX8_readLife 7 rfl) ?_
  refine pv_invV2 (k := 1) (d' := 2) (pc := 12) pcv_X8_113 (by decide) rfl (Nat.le_of_ble_eq_true rfl) (by decide) (fm_dec dtX8_readLife 8 rfl) ?_
  refine s_numF64 (by decide) (by decide) bb.f13 bb.2.2.2.2 (fun n12 M12 c12 m12 hI12 f12 => ?_) (fun n12 M12 c12 m12 hI12 f12 => ?_)  
  · refine pv_then1 ?_
    refine pv_istoren (pc := 15) (n := 3) 3 rfl (by decide) rfl (fm_dec dtX8_readLife 9 rfl) ?_
    dsimp only [List.set_cons_zero, List.set_cons_succ]
    exact xf_readLife16 (bb.go f12 hI12) (by rw [(f12 13 9 rfl).1]; exact hI9) hq
  · refine pv_then1 ?_
    refine pv_istoren (pc := 15) (n := 3) 3 rfl (by decide) rfl (fm_dec dtX8_readLife 9 rfl) ?_
    dsimp only [List.set_cons_zero, List.set_cons_succ]
    exact xf_readLife16 (bb.go f12 hI12) (by rw [(f12 13 9 rfl).1]; exact hI9) hq
set_option maxRecDepth 20000 in
theorem xf_readHas20 {Q : fmR → fmM → Prop} {M0 M : fmM} {k a : Nat} {x2 x3 : Int32} (bb : xdBad M0 M k a) (hI9 : (M.1 13 9).toInt ≤ 8 ∧ 0 ≤ (M.1 13 9).toInt) (hq : ∀ M2 : fmM, xdBad M0 M2 k a → Q (.inl (some (.int 0))) M2) : pvEv Tx 3 qX8_readHas 20 [some (.ref 13), some (.ref 1), some (.int x2), some (.int x3)] [] M Q := by
  refine pv_aloadn (pc := 20) (n := 1) 1 rfl rfl (fm_dec dtX8_readHas 13 rfl) ?_
  refine pv_invV0 (k := 1) (d' := 0) (pc := 21) pcv_X8_117 (by decide) rfl (Nat.le_of_ble_eq_true rfl) (by decide) (fm_dec dtX8_readHas 14 rfl) ?_
  refine c_xfailed (fun h9 => absurd h9 bb.nz) (fun _ => ?_) 
  refine pv_then1 ?_
  refine pv_if_ne (pc := 24) 31 (by decide) (fm_dec dtX8_readHas 15 rfl) (fun _ => ?_) (fun hc24 => by exfalso; revert hc24; decide)
  refine pv_iconst (pc := 31) (v := 0) (by decide) (fm_dec dtX8_readHas 18 rfl) ?_
  exact pv_zreturn (pc := 32) rfl (by first | exact Or.inr rfl | exact Or.inl rfl) (fm_dec dtX8_readHas 19 rfl) (hq _ bb)
set_option maxRecDepth 20000 in
theorem xf_readHas12 {Q : fmR → fmM → Prop} {M0 M : fmM} {k a : Nat} {x2 : Int32} {v3 : Option Value} (bb : xdBad M0 M k a) (hI9 : (M.1 13 9).toInt ≤ 8 ∧ 0 ≤ (M.1 13 9).toInt) (hq : ∀ M2 : fmM, xdBad M0 M2 k a → Q (.inl (some (.int 0))) M2) : pvEv Tx 3 qX8_readHas 12 [some (.ref 13), some (.ref 1), some (.int x2), v3] [] M Q := by
  refine pv_aloadn (pc := 12) (n := 1) 1 rfl rfl (fm_dec dtX8_readHas 8 rfl) ?_
  refine pv_iconst (pc := 13) (v := 0) (by decide) (fm_dec dtX8_readHas 9 rfl) ?_
  refine pv_bipush (pc := 14) (v := 40) (by decide) (fm_dec dtX8_readHas 10 rfl) ?_
  refine pv_invV2 (k := 1) (d' := 2) (pc := 16) pcv_X8_113 (by decide) rfl (Nat.le_of_ble_eq_true rfl) (by decide) (fm_dec dtX8_readHas 11 rfl) ?_
  refine s_numF40 (by decide) (by decide) bb.f13 bb.2.2.2.2 (fun n16 M16 c16 m16 hI16 f16 => ?_) (fun n16 M16 c16 m16 hI16 f16 => ?_)  
  · refine pv_then1 ?_
    refine pv_istoren (pc := 19) (n := 3) 3 rfl (by decide) rfl (fm_dec dtX8_readHas 12 rfl) ?_
    dsimp only [List.set_cons_zero, List.set_cons_succ]
    exact xf_readHas20 (bb.go f16 hI16) (by rw [(f16 13 9 rfl).1]; exact hI9) hq
  · refine pv_then1 ?_
    refine pv_istoren (pc := 19) (n := 3) 3 rfl (by decide) rfl (fm_dec dtX8_readHas 12 rfl) ?_
    dsimp only [List.set_cons_zero, List.set_cons_succ]
    exact xf_readHas20 (bb.go f16 hI16) (by rw [(f16 13 9 rfl).1]; exact hI9) hq
set_option maxRecDepth 20000 in
theorem xf_readFact28 {Q : fmR → fmM → Prop} {M0 M : fmM} {k a : Nat} {x2 x3 x4 : Int32} (bb : xdBad M0 M k a) (hI9 : (M.1 13 9).toInt ≤ 8 ∧ 0 ≤ (M.1 13 9).toInt) (hq : ∀ M2 : fmM, xdBad M0 M2 k a → Q (.inl (some (.int 0))) M2) : pvEv Tx 3 qX8_readFact 28 [some (.ref 13), some (.ref 1), some (.int x2), some (.int x3), some (.int x4)] [] M Q := by
  refine pv_aloadn (pc := 28) (n := 1) 1 rfl rfl (fm_dec dtX8_readFact 18 rfl) ?_
  refine pv_invV0 (k := 1) (d' := 0) (pc := 29) pcv_X8_117 (by decide) rfl (Nat.le_of_ble_eq_true rfl) (by decide) (fm_dec dtX8_readFact 19 rfl) ?_
  refine c_xfailed (fun h9 => absurd h9 bb.nz) (fun _ => ?_) 
  refine pv_then1 ?_
  refine pv_if_ne (pc := 32) 44 (by decide) (fm_dec dtX8_readFact 20 rfl) (fun _ => ?_) (fun hc32 => by exfalso; revert hc32; decide)
  refine pv_iconst (pc := 44) (v := 0) (by decide) (fm_dec dtX8_readFact 25 rfl) ?_
  exact pv_zreturn (pc := 45) rfl (by first | exact Or.inr rfl | exact Or.inl rfl) (fm_dec dtX8_readFact 26 rfl) (hq _ bb)
set_option maxRecDepth 20000 in
theorem xf_readFact19 {Q : fmR → fmM → Prop} {M0 M : fmM} {k a : Nat} {x2 x3 : Int32} {v4 : Option Value} (bb : xdBad M0 M k a) (hI9 : (M.1 13 9).toInt ≤ 8 ∧ 0 ≤ (M.1 13 9).toInt) (hq : ∀ M2 : fmM, xdBad M0 M2 k a → Q (.inl (some (.int 0))) M2) : pvEv Tx 3 qX8_readFact 19 [some (.ref 13), some (.ref 1), some (.int x2), some (.int x3), v4] [] M Q := by
  refine pv_aloadn (pc := 19) (n := 1) 1 rfl rfl (fm_dec dtX8_readFact 13 rfl) ?_
  refine pv_iconst (pc := 20) (v := 1) (by decide) (fm_dec dtX8_readFact 14 rfl) ?_
  refine pv_bipush (pc := 21) (v := 60) (by decide) (fm_dec dtX8_readFact 15 rfl) ?_
  refine pv_invV2 (k := 1) (d' := 2) (pc := 23) pcv_X8_113 (by decide) rfl (Nat.le_of_ble_eq_true rfl) (by decide) (fm_dec dtX8_readFact 16 rfl) ?_
  refine s_numF60 (by decide) (by decide) bb.f13 bb.2.2.2.2 (fun n23 M23 c23 m23 hI23 f23 => ?_) (fun n23 M23 c23 m23 hI23 f23 => ?_)  
  · refine pv_then1 ?_
    refine pv_istore (pc := 26) (i := 4) (by decide) rfl (fm_dec dtX8_readFact 17 rfl) ?_
    dsimp only [List.set_cons_zero, List.set_cons_succ]
    exact xf_readFact28 (bb.go f23 hI23) (by rw [(f23 13 9 rfl).1]; exact hI9) hq
  · refine pv_then1 ?_
    refine pv_istore (pc := 26) (i := 4) (by decide) rfl (fm_dec dtX8_readFact 17 rfl) ?_
    dsimp only [List.set_cons_zero, List.set_cons_succ]
    exact xf_readFact28 (bb.go f23 hI23) (by rw [(f23 13 9 rfl).1]; exact hI9) hq
set_option maxRecDepth 20000 in
theorem xf_readFact12 {Q : fmR → fmM → Prop} {M0 M : fmM} {k a : Nat} {x2 : Int32} {v3 v4 : Option Value} (bb : xdBad M0 M k a) (hI9 : (M.1 13 9).toInt ≤ 8 ∧ 0 ≤ (M.1 13 9).toInt) (hq : ∀ M2 : fmM, xdBad M0 M2 k a → Q (.inl (some (.int 0))) M2) : pvEv Tx 3 qX8_readFact 12 [some (.ref 13), some (.ref 1), some (.int x2), v3, v4] [] M Q := by
  refine pv_aloadn (pc := 12) (n := 1) 1 rfl rfl (fm_dec dtX8_readFact 8 rfl) ?_
  refine pv_iconst (pc := 13) (v := 0) (by decide) (fm_dec dtX8_readFact 9 rfl) ?_
  refine pv_iconst (pc := 14) (v := 5) (by decide) (fm_dec dtX8_readFact 10 rfl) ?_
  refine pv_invV2 (k := 1) (d' := 2) (pc := 15) pcv_X8_113 (by decide) rfl (Nat.le_of_ble_eq_true rfl) (by decide) (fm_dec dtX8_readFact 11 rfl) ?_
  refine s_numF5 (by decide) (by decide) bb.f13 bb.2.2.2.2 (fun n15 M15 c15 m15 hI15 f15 => ?_) (fun n15 M15 c15 m15 hI15 f15 => ?_)  
  · refine pv_then1 ?_
    refine pv_istoren (pc := 18) (n := 3) 3 rfl (by decide) rfl (fm_dec dtX8_readFact 12 rfl) ?_
    dsimp only [List.set_cons_zero, List.set_cons_succ]
    exact xf_readFact19 (bb.go f15 hI15) (by rw [(f15 13 9 rfl).1]; exact hI9) hq
  · refine pv_then1 ?_
    refine pv_istoren (pc := 18) (n := 3) 3 rfl (by decide) rfl (fm_dec dtX8_readFact 12 rfl) ?_
    dsimp only [List.set_cons_zero, List.set_cons_succ]
    exact xf_readFact19 (bb.go f15 hI15) (by rw [(f15 13 9 rfl).1]; exact hI9) hq
set_option maxRecDepth 20000 in
theorem xf_readBy43 {Q : fmR → fmM → Prop} {M0 M : fmM} {k a : Nat} {v2 v3 v4 : Option Value} (bb : xdBad M0 M k a) (hI9 : (M.1 13 9).toInt ≤ 8 ∧ 0 ≤ (M.1 13 9).toInt) (hq : ∀ M2 : fmM, xdBad M0 M2 k a → Q (.inl (some (.int 0))) M2) : pvEv Tx 3 qX8_readBy 43 [some (.ref 13), some (.ref 1), v2, v3, v4] [] M Q := by
  refine pv_aloadn (pc := 43) (n := 1) 1 rfl rfl (fm_dec dtX8_readBy 27 rfl) ?_
  refine pv_invV0 (k := 1) (d' := 0) (pc := 44) pcv_X8_117 (by decide) rfl (Nat.le_of_ble_eq_true rfl) (by decide) (fm_dec dtX8_readBy 28 rfl) ?_
  refine c_xfailed (fun h9 => absurd h9 bb.nz) (fun _ => ?_) 
  refine pv_then1 ?_
  refine pv_if_ne (pc := 47) 54 (by decide) (fm_dec dtX8_readBy 29 rfl) (fun _ => ?_) (fun hc47 => by exfalso; revert hc47; decide)
  refine pv_iconst (pc := 54) (v := 0) (by decide) (fm_dec dtX8_readBy 32 rfl) ?_
  exact pv_zreturn (pc := 55) rfl (by first | exact Or.inr rfl | exact Or.inl rfl) (fm_dec dtX8_readBy 33 rfl) (hq _ bb)
set_option maxRecDepth 20000 in
theorem xf_readBy30 {Q : fmR → fmM → Prop} {M0 M : fmM} {k a : Nat} {x2 x3 x4 : Int32} (bb : xdBad M0 M k a) (hI9 : (M.1 13 9).toInt ≤ 8 ∧ 0 ≤ (M.1 13 9).toInt) (hq : ∀ M2 : fmM, xdBad M0 M2 k a → Q (.inl (some (.int 0))) M2) : pvEv Tx 3 qX8_readBy 30 [some (.ref 13), some (.ref 1), some (.int x2), some (.int x3), some (.int x4)] [] M Q := by
  refine pv_iload (pc := 30) (i := 4) rfl (fm_dec dtX8_readBy 19 rfl) ?_
  refine pv_iloadn (pc := 32) (n := 2) 2 rfl rfl (fm_dec dtX8_readBy 20 rfl) ?_
  refine pv_icmp_ne (pc := 33) 43 (by decide) (fm_dec dtX8_readBy 21 rfl) (fun hc33 => ?_) (fun hc33 => ?_)
  · exact xf_readBy43 bb hI9 hq
  · refine pv_aloadn (pc := 36) (n := 1) 1 rfl rfl (fm_dec dtX8_readBy 22 rfl) ?_
    refine pv_iconst (pc := 37) (v := 2) (by decide) (fm_dec dtX8_readBy 23 rfl) ?_
    refine pv_iloadn (pc := 38) (n := 3) 3 rfl rfl (fm_dec dtX8_readBy 24 rfl) ?_
    refine pv_invV2 (k := 1) (d' := 0) (pc := 39) pcv_X8_84 (by decide) rfl (Nat.le_of_ble_eq_true rfl) (by decide) (fm_dec dtX8_readBy 25 rfl) ?_
    refine c_xfail1 bb.nz ?_
    refine pv_then1 ?_
    refine pv_pop (pc := 42) rfl (fm_dec dtX8_readBy 26 rfl) ?_
    exact xf_readBy43 bb hI9 hq
set_option maxRecDepth 20000 in
theorem xf_readBy12 {Q : fmR → fmM → Prop} {M0 M : fmM} {k a : Nat} {x2 : Int32} {v3 v4 : Option Value} (bb : xdBad M0 M k a) (hI9 : (M.1 13 9).toInt ≤ 8 ∧ 0 ≤ (M.1 13 9).toInt) (hq : ∀ M2 : fmM, xdBad M0 M2 k a → Q (.inl (some (.int 0))) M2) : pvEv Tx 3 qX8_readBy 12 [some (.ref 13), some (.ref 1), some (.int x2), v3, v4] [] M Q := by
  refine pv_aloadn (pc := 12) (n := 1) 1 rfl rfl (fm_dec dtX8_readBy 8 rfl) ?_
  refine pv_invV0 (k := 1) (d' := 1) (pc := 13) pcv_X8_88 (by decide) rfl (Nat.le_of_ble_eq_true rfl) (by decide) (fm_dec dtX8_readBy 9 rfl) ?_
  refine s_next bb.2.2.2.2 (fun n13 M13 c13 hI13 f13 => ?_)
  refine pv_then1 ?_
  refine pv_istoren (pc := 16) (n := 3) 3 rfl (by decide) rfl (fm_dec dtX8_readBy 10 rfl) ?_
  dsimp only [List.set_cons_zero, List.set_cons_succ]
  have hI9 : (M13.1 13 9).toInt ≤ 8 ∧ 0 ≤ (M13.1 13 9).toInt := (by rw [(f13 13 9 rfl).1]; exact hI9)
  refine pv_aloadn (pc := 17) (n := 1) 1 rfl rfl (fm_dec dtX8_readBy 11 rfl) ?_
  refine pv_iconst (pc := 18) (v := 0) (by decide) (fm_dec dtX8_readBy 12 rfl) ?_
  refine pv_aloadn (pc := 19) (n := 0) 0 rfl rfl (fm_dec dtX8_readBy 13 rfl) ?_
  refine pv_getI (k := 13) (j := 9) (ci := 8) (pc := 20) pfl_X8_42 (by decide) rfl (by decide) (fm_dec dtX8_readBy 14 rfl) ?_
  refine pv_iconst (pc := 23) (v := 1) (by decide) (fm_dec dtX8_readBy 15 rfl) ?_
  refine pv_isub (pc := 24) (fm_dec dtX8_readBy 16 rfl) ?_
  refine pv_invV2 (k := 1) (d' := 2) (pc := 25) pcv_X8_113 (by decide) rfl (Nat.le_of_ble_eq_true rfl) (by decide) (fm_dec dtX8_readBy 17 rfl) ?_
  refine s_numF7 (by decide) (by have h9 := sc_sub (x := M13.1 13 9) (z := 1) (by have h8 : (1 : Int32).toInt = 1 := (by decide); omega) (by have h8 : (1 : Int32).toInt = 1 := (by decide); omega); have h8 : (1 : Int32).toInt = 1 := (by decide); exact ⟨by omega, by omega⟩) (by rw [(f13 1 4 rfl).1]; exact bb.f13) hI13 (fun n25 M25 c25 m25 hI25 f25 => ?_) (fun n25 M25 c25 m25 hI25 f25 => ?_)  
  · refine pv_then1 ?_
    refine pv_istore (pc := 28) (i := 4) (by decide) rfl (fm_dec dtX8_readBy 18 rfl) ?_
    dsimp only [List.set_cons_zero, List.set_cons_succ]
    exact xf_readBy30 ((bb.go f13 hI13).go f25 hI25) (by rw [(f25 13 9 rfl).1]; exact hI9) hq
  · refine pv_then1 ?_
    refine pv_istore (pc := 28) (i := 4) (by decide) rfl (fm_dec dtX8_readBy 18 rfl) ?_
    dsimp only [List.set_cons_zero, List.set_cons_succ]
    exact xf_readBy30 ((bb.go f13 hI13).go f25 hI25) (by rw [(f25 13 9 rfl).1]; exact hI9) hq
def lfM (M : fmM) (a b c d : Int32) : fmM := fmI (fmI (fmI (fmI (fmI (fmI (fmI M 14 (M.1 13 9).toNatClampNeg a) 15 (M.1 13 9).toNatClampNeg b) 16 (M.1 13 9).toNatClampNeg c) 17 (M.1 13 9).toNatClampNeg d) 18 (M.1 13 9).toNatClampNeg (-1)) 19 (M.1 13 9).toNatClampNeg (-1)) 13 9 (M.1 13 9 + 1)
theorem lf_tok {M0 M : fmM} {tx : tX} {n q na nb nc nd : Nat} {D : dD} {a b c d : Int32} (h : tok M0 M tx n q D) (h8 : D.1 < 8) (ha : a.toInt = na) (hb : b.toInt = nb) (hc : c.toInt = nc) (hd : d.toInt = nd) (a1 : na ≤ 110) (b1 : nb ≤ 64) (c1 : nc ≤ 99) (d1 : nd ≤ 9) : tok M0 (lfM M a b c d) tx n q (D.1 + 1, dRow D.2.1 D.1 [(na : Int), nb, nc, nd, -1, -1], D.2.2) := by
  obtain ⟨hS, hf, hI, ⟨⟨g1, g2, g3, g4, g5, g6⟩, g7, g8⟩, hF⟩ := h
  have m1 : (-1 : Int32).toInt = -1 := by decide
  have el : (M.1 13 9).toNatClampNeg = D.1 := i32_cl g1
  have e1 : (M.1 13 9 + 1).toInt = ((D.1 + 1 : Nat) : Int) := i32_p1 g1 (by omega)
  unfold lfM
  rw [el]
  refine ⟨hS.of rfl rfl rfl, hf, ?_, ⟨⟨?_, g2, g3, g4, g5, g6⟩, fun i hi j hj => ?_, fun i hi j hj => ?_⟩, (((((((hF.put (by decide)).put (by decide)).put (by decide)).put (by decide)).put (by decide)).put (by decide)).put (by decide))⟩
  · exact xInv.put (xInv.put (xInv.put (xInv.put (xInv.put (xInv.put (xInv.put hI ⟨by show (0 : Int) ≤ _; omega, by show _ ≤ (110 : Int); omega⟩) ⟨by show (0 : Int) ≤ _; omega, by show _ ≤ (64 : Int); omega⟩) ⟨by show (0 : Int) ≤ _; omega, by show _ ≤ (99 : Int); omega⟩) ⟨by show (0 : Int) ≤ _; omega, by show _ ≤ (9 : Int); omega⟩) ⟨by show ((-1) : Int) ≤ _; omega, by show _ ≤ (40 : Int); omega⟩) ⟨by show ((-1) : Int) ≤ _; omega, by show _ ≤ (7 : Int); omega⟩) ⟨by show (0 : Int) ≤ _; omega, by show _ ≤ (8 : Int); omega⟩
  · rw [fmI_s]
    exact e1
  · have hi : i < D.1 + 1 := hi
    show _ = dRow D.2.1 D.1 [(na : Int), nb, nc, nd, -1, -1] i j
    unfold dRow
    by_cases e : i = D.1
    · subst e
      rw [if_pos rfl]
      match j, hj with
      | 0, _ =>
        rw [fmI_k _ _ (by decide), fmI_k _ _ (by decide), fmI_k _ _ (by decide), fmI_k _ _ (by decide), fmI_k _ _ (by decide), fmI_k _ _ (by decide), fmI_s]
        exact ha
      | 1, _ =>
        rw [fmI_k _ _ (by decide), fmI_k _ _ (by decide), fmI_k _ _ (by decide), fmI_k _ _ (by decide), fmI_k _ _ (by decide), fmI_s]
        exact hb
      | 2, _ =>
        rw [fmI_k _ _ (by decide), fmI_k _ _ (by decide), fmI_k _ _ (by decide), fmI_k _ _ (by decide), fmI_s]
        exact hc
      | 3, _ =>
        rw [fmI_k _ _ (by decide), fmI_k _ _ (by decide), fmI_k _ _ (by decide), fmI_s]
        exact hd
      | 4, _ =>
        rw [fmI_k _ _ (by decide), fmI_k _ _ (by decide), fmI_s]
        exact m1
      | 5, _ =>
        rw [fmI_k _ _ (by decide), fmI_s]
        exact m1
      | j + 6, h => omega
    · rw [if_neg e]
      rw [← g7 i (by omega) j hj]
      simp only [fmI_at, show ¬ (13 + 1 + j = 13) by omega, e, and_false, false_and, if_false]
  · have hi : i < D.2.2.1 := hi
    show _ = D.2.2.2.1 i j
    rw [← g8 i hi j hj]
    simp only [fmI_at, show ¬ (13 + 7 + j = 13) by omega, show ¬ (13 + 7 + j = 14) by omega, show ¬ (13 + 7 + j = 15) by omega, show ¬ (13 + 7 + j = 16) by omega, show ¬ (13 + 7 + j = 17) by omega, show ¬ (13 + 7 + j = 18) by omega, show ¬ (13 + 7 + j = 19) by omega, false_and, if_false]
set_option maxRecDepth 20000 in
theorem x_life {M : fmM} {Q : fmR → fmM → Prop} {tx : tX} {n p : Nat} {D : dD} (ht : tOk tx n) (hS : xS2 M tx n p) (hf : M.1 1 4 = 0) (hI : scInv Tx invX M) (hW : xdw 13 M D) (hD : dOk D) (h8 : D.1 < 8) (hok : ∀ (M' : fmM) (D' : dD) (q : Nat), clLife tx D p = .inr (D', q) → tok M M' tx n q D' → Q (.inl (some (.int 1))) M') (hbad : ∀ (M' : fmM) (k a : Nat), clLife tx D p = .inl (k, a) → tbad M M' k a → Q (.inl (some (.int 0))) M') : pvGood Tx 3 qX8_readLife [.ref 13, .ref 1] M Q := by
  refine pvGood_of (Nat.le_of_ble_eq_true rfl) ?_
  show pvEv Tx 3 qX8_readLife 0 [some (.ref 13), some (.ref 1), none, none, none, none] [] M Q
  have k0 : xdOk M M tx n p := ⟨hS, hf, xdFr.refl M, hI⟩
  have h139 : (M.1 13 9).toInt ≤ 8 ∧ 0 ≤ (M.1 13 9).toInt := (by have h8 := hW.1.1; have h7 := hD.1; exact ⟨by omega, by omega⟩)
  refine pv_aloadn (pc := 0) (n := 1) 1 rfl rfl (fm_dec dtX8_readLife 0 rfl) ?_
  refine pv_iconst (pc := 1) (v := 0) (by decide) (fm_dec dtX8_readLife 1 rfl) ?_
  refine pv_bipush (pc := 2) (v := 110) (by decide) (fm_dec dtX8_readLife 2 rfl) ?_
  refine pv_invV2 (k := 1) (d' := 2) (pc := 4) pcv_X8_113 (by decide) rfl (Nat.le_of_ble_eq_true rfl) (by decide) (fm_dec dtX8_readLife 3 rfl) ?_
  refine x_numC 0 110 (by decide) (by decide) (by decide) k0.1 k0.2.1 k0.2.2.2 (fun M4 a4 q4 w4 e4 hw4 k4 => ?_) (fun M4 kb ab e4 b4 => ?_)
  · refine pv_then1 ?_
    refine pv_istoren (pc := 7) (n := 2) 2 rfl (by decide) rfl (fm_dec dtX8_readLife 4 rfl) ?_
    dsimp only [List.set_cons_zero, List.set_cons_succ]
    refine pv_aloadn (pc := 8) (n := 1) 1 rfl rfl (fm_dec dtX8_readLife 5 rfl) ?_
    refine pv_iconst (pc := 9) (v := 0) (by decide) (fm_dec dtX8_readLife 6 rfl) ?_
    refine pv_bipush (pc := 10) (v := 64) (by decide) (fm_dec dtX8_readLife 7 rfl) ?_
    refine pv_invV2 (k := 1) (d' := 2) (pc := 12) pcv_X8_113 (by decide) rfl (Nat.le_of_ble_eq_true rfl) (by decide) (fm_dec dtX8_readLife 8 rfl) ?_
    refine x_numC 0 64 (by decide) (by decide) (by decide) k4.1 k4.2.1 k4.2.2.2 (fun M12 a12 q12 w12 e12 hw12 k12 => ?_) (fun M12 kb ab e12 b12 => ?_)
    · refine pv_then1 ?_
      refine pv_istoren (pc := 15) (n := 3) 3 rfl (by decide) rfl (fm_dec dtX8_readLife 9 rfl) ?_
      dsimp only [List.set_cons_zero, List.set_cons_succ]
      refine pv_aloadn (pc := 16) (n := 1) 1 rfl rfl (fm_dec dtX8_readLife 10 rfl) ?_
      refine pv_iconst (pc := 17) (v := 1) (by decide) (fm_dec dtX8_readLife 11 rfl) ?_
      refine pv_bipush (pc := 18) (v := 99) (by decide) (fm_dec dtX8_readLife 12 rfl) ?_
      refine pv_invV2 (k := 1) (d' := 2) (pc := 20) pcv_X8_113 (by decide) rfl (Nat.le_of_ble_eq_true rfl) (by decide) (fm_dec dtX8_readLife 13 rfl) ?_
      refine x_numC 1 99 (by decide) (by decide) (by decide) k12.1 k12.2.1 k12.2.2.2 (fun M20 a20 q20 w20 e20 hw20 k20 => ?_) (fun M20 kb ab e20 b20 => ?_)
      · refine pv_then1 ?_
        refine pv_istore (pc := 23) (i := 4) (by decide) rfl (fm_dec dtX8_readLife 14 rfl) ?_
        dsimp only [List.set_cons_zero, List.set_cons_succ]
        refine pv_aloadn (pc := 25) (n := 1) 1 rfl rfl (fm_dec dtX8_readLife 15 rfl) ?_
        refine pv_iconst (pc := 26) (v := 1) (by decide) (fm_dec dtX8_readLife 16 rfl) ?_
        refine pv_bipush (pc := 27) (v := 9) (by decide) (fm_dec dtX8_readLife 17 rfl) ?_
        refine pv_invV2 (k := 1) (d' := 2) (pc := 29) pcv_X8_113 (by decide) rfl (Nat.le_of_ble_eq_true rfl) (by decide) (fm_dec dtX8_readLife 18 rfl) ?_
        refine x_numC 1 9 (by decide) (by decide) (by decide) k20.1 k20.2.1 k20.2.2.2 (fun M29 a29 q29 w29 e29 hw29 k29 => ?_) (fun M29 kb ab e29 b29 => ?_)
        · refine pv_then1 ?_
          refine pv_istore (pc := 32) (i := 5) (by decide) rfl (fm_dec dtX8_readLife 19 rfl) ?_
          dsimp only [List.set_cons_zero, List.set_cons_succ]
          have hW9 : xdw 13 M29 D := hW.xd (k0.2.2.1.trans (k4.2.2.1.trans (k12.2.2.1.trans (k20.2.2.1.trans k29.2.2.1))))
          have h1 : (M29.1 13 9).toInt = (D.1 : Int) := hW9.1.1
          have n0 := spNum_ok ht k0.1.2.2.1 e4
          have n1 := spNum_ok ht k4.1.2.2.1 e12
          have n2 := spNum_ok ht k12.1.2.2.1 e20
          have n3 := spNum_ok ht k20.1.2.2.1 e29
          refine pv_aloadn (pc := 34) (n := 1) 1 rfl rfl (fm_dec dtX8_readLife 20 rfl) ?_
          refine pv_invV0 (k := 1) (d' := 0) (pc := 35) pcv_X8_117 (by decide) rfl (Nat.le_of_ble_eq_true rfl) (by decide) (fm_dec dtX8_readLife 21 rfl) ?_
          refine c_xfailed (fun _ => ?_) (fun h9 => absurd k29.2.1 h9) 
          refine pv_then1 ?_
          refine pv_if_ne (pc := 38) 50 (by decide) (fm_dec dtX8_readLife 22 rfl) (fun hc38 => by exfalso; revert hc38; decide) (fun _ => ?_)
          refine pv_aloadn (pc := 41) (n := 0) 0 rfl rfl (fm_dec dtX8_readLife 23 rfl) ?_
          refine pv_getI (k := 13) (j := 9) (ci := 8) (pc := 42) pfl_X8_42 (by decide) rfl (by decide) (fm_dec dtX8_readLife 24 rfl) ?_
          refine pv_bipush (pc := 45) (v := 8) (by decide) (fm_dec dtX8_readLife 25 rfl) ?_
          refine pv_icmp_lt (pc := 47) 52 (by decide) (fm_dec dtX8_readLife 26 rfl) (fun _ => ?_) (fun hc47 => by exfalso; rw [sc_lt] at hc47; have h7 : (8 : Int32).toInt = 8 := (by decide); omega)
          refine pv_aloadn (pc := 52) (n := 0) 0 rfl rfl (fm_dec dtX8_readLife 29 rfl) ?_
          refine pv_getR (k := 13) (j := 0) (ci := 8) (pc := 53) 14 rfl (by decide) pfl_X8_9 (by decide) rfl (by decide) (fm_dec dtX8_readLife 30 rfl) ?_
          refine pv_aloadn (pc := 56) (n := 0) 0 rfl rfl (fm_dec dtX8_readLife 31 rfl) ?_
          refine pv_getI (k := 13) (j := 9) (ci := 8) (pc := 57) pfl_X8_42 (by decide) rfl (by decide) (fm_dec dtX8_readLife 32 rfl) ?_
          refine pv_iloadn (pc := 60) (n := 2) 2 rfl rfl (fm_dec dtX8_readLife 33 rfl) ?_
          refine pv_iast (k := 14) (n := 8) (pc := 61) (by decide) rfl rfl (ix_in h1 h8) (fm_dec dtX8_readLife 34 rfl) ?_
          refine pv_aloadn (pc := 62) (n := 0) 0 rfl rfl (fm_dec dtX8_readLife 35 rfl) ?_
          refine pv_getR (k := 13) (j := 1) (ci := 8) (pc := 63) 15 rfl (by decide) pfl_X8_15 (by decide) rfl (by decide) (fm_dec dtX8_readLife 36 rfl) ?_
          refine pv_aloadn (pc := 66) (n := 0) 0 rfl rfl (fm_dec dtX8_readLife 37 rfl) ?_
          refine pv_getI (k := 13) (j := 9) (ci := 8) (pc := 67) pfl_X8_42 (by decide) rfl (by decide) (fm_dec dtX8_readLife 38 rfl) ?_
          refine pv_iloadn (pc := 70) (n := 3) 3 rfl rfl (fm_dec dtX8_readLife 39 rfl) ?_
          refine pv_iast (k := 15) (n := 8) (pc := 71) (by decide) rfl rfl (ix_in h1 h8) (fm_dec dtX8_readLife 40 rfl) ?_
          refine pv_aloadn (pc := 72) (n := 0) 0 rfl rfl (fm_dec dtX8_readLife 41 rfl) ?_
          refine pv_getR (k := 13) (j := 2) (ci := 8) (pc := 73) 16 rfl (by decide) pfl_X8_18 (by decide) rfl (by decide) (fm_dec dtX8_readLife 42 rfl) ?_
          refine pv_aloadn (pc := 76) (n := 0) 0 rfl rfl (fm_dec dtX8_readLife 43 rfl) ?_
          refine pv_getI (k := 13) (j := 9) (ci := 8) (pc := 77) pfl_X8_42 (by decide) rfl (by decide) (fm_dec dtX8_readLife 44 rfl) ?_
          refine pv_iload (pc := 80) (i := 4) rfl (fm_dec dtX8_readLife 45 rfl) ?_
          refine pv_iast (k := 16) (n := 8) (pc := 82) (by decide) rfl rfl (ix_in h1 h8) (fm_dec dtX8_readLife 46 rfl) ?_
          refine pv_aloadn (pc := 83) (n := 0) 0 rfl rfl (fm_dec dtX8_readLife 47 rfl) ?_
          refine pv_getR (k := 13) (j := 3) (ci := 8) (pc := 84) 17 rfl (by decide) pfl_X8_21 (by decide) rfl (by decide) (fm_dec dtX8_readLife 48 rfl) ?_
          refine pv_aloadn (pc := 87) (n := 0) 0 rfl rfl (fm_dec dtX8_readLife 49 rfl) ?_
          refine pv_getI (k := 13) (j := 9) (ci := 8) (pc := 88) pfl_X8_42 (by decide) rfl (by decide) (fm_dec dtX8_readLife 50 rfl) ?_
          refine pv_iload (pc := 91) (i := 5) rfl (fm_dec dtX8_readLife 51 rfl) ?_
          refine pv_iast (k := 17) (n := 8) (pc := 93) (by decide) rfl rfl (ix_in h1 h8) (fm_dec dtX8_readLife 52 rfl) ?_
          refine pv_aloadn (pc := 94) (n := 0) 0 rfl rfl (fm_dec dtX8_readLife 53 rfl) ?_
          refine pv_getR (k := 13) (j := 4) (ci := 8) (pc := 95) 18 rfl (by decide) pfl_X8_24 (by decide) rfl (by decide) (fm_dec dtX8_readLife 54 rfl) ?_
          refine pv_aloadn (pc := 98) (n := 0) 0 rfl rfl (fm_dec dtX8_readLife 55 rfl) ?_
          refine pv_getI (k := 13) (j := 9) (ci := 8) (pc := 99) pfl_X8_42 (by decide) rfl (by decide) (fm_dec dtX8_readLife 56 rfl) ?_
          refine pv_iconst (pc := 102) (v := (-1)) (by decide) (fm_dec dtX8_readLife 57 rfl) ?_
          refine pv_iast (k := 18) (n := 8) (pc := 103) (by decide) rfl rfl (ix_in h1 h8) (fm_dec dtX8_readLife 58 rfl) ?_
          refine pv_aloadn (pc := 104) (n := 0) 0 rfl rfl (fm_dec dtX8_readLife 59 rfl) ?_
          refine pv_getR (k := 13) (j := 5) (ci := 8) (pc := 105) 19 rfl (by decide) pfl_X8_27 (by decide) rfl (by decide) (fm_dec dtX8_readLife 60 rfl) ?_
          refine pv_aloadn (pc := 108) (n := 0) 0 rfl rfl (fm_dec dtX8_readLife 61 rfl) ?_
          refine pv_getI (k := 13) (j := 9) (ci := 8) (pc := 109) pfl_X8_42 (by decide) rfl (by decide) (fm_dec dtX8_readLife 62 rfl) ?_
          refine pv_iconst (pc := 112) (v := (-1)) (by decide) (fm_dec dtX8_readLife 63 rfl) ?_
          refine pv_iast (k := 19) (n := 8) (pc := 113) (by decide) rfl rfl (ix_in h1 h8) (fm_dec dtX8_readLife 64 rfl) ?_
          refine pv_aloadn (pc := 114) (n := 0) 0 rfl rfl (fm_dec dtX8_readLife 65 rfl) ?_
          refine pv_dup (pc := 115) rfl (fm_dec dtX8_readLife 66 rfl) ?_
          refine pv_getI (k := 13) (j := 9) (ci := 8) (pc := 116) pfl_X8_42 (by decide) rfl (by decide) (fm_dec dtX8_readLife 67 rfl) ?_
          refine pv_iconst (pc := 119) (v := 1) (by decide) (fm_dec dtX8_readLife 68 rfl) ?_
          refine pv_iadd (pc := 120) (fm_dec dtX8_readLife 69 rfl) ?_
          refine pv_putI (k := 13) (j := 9) (ci := 8) (pc := 121) pfl_X8_42 (by decide) rfl (by decide) (fm_dec dtX8_readLife 70 rfl) ?_
          refine pv_iconst (pc := 124) (v := 1) (by decide) (fm_dec dtX8_readLife 71 rfl) ?_
          exact pv_zreturn (pc := 125) rfl (by first | exact Or.inr rfl | exact Or.inl rfl) (fm_dec dtX8_readLife 72 rfl) (hok (lfM M29 w4 w12 w20 w29) _ _ (by unfold clLife; simp only [spBind, e4, e12, e20, e29]) (lf_tok ⟨k29.1, k29.2.1, k29.2.2.2, hW9, ((k0.2.2.1.trans (k4.2.2.1.trans (k12.2.2.1.trans (k20.2.2.1.trans k29.2.2.1))))).df⟩ h8 hw4 hw12 hw20 hw29 (by omega) (by omega) (by omega) (by omega)))
        · refine pv_then1 ?_
          refine pv_istore (pc := 32) (i := 5) (by decide) rfl (fm_dec dtX8_readLife 19 rfl) ?_
          dsimp only [List.set_cons_zero, List.set_cons_succ]
          exact xf_readLife34 b29 (by rw [(((k0.2.2.1.trans (k4.2.2.1.trans (k12.2.2.1.trans k20.2.2.1))).trans b29.2.2.2.1).1 13 9 (by decide)).1]; exact h139) (fun M2 h2 => hbad M2 kb ab (by unfold clLife; simp only [spBind, e4, e12, e20, e29]) (h2.fr (k0.2.2.1.trans (k4.2.2.1.trans (k12.2.2.1.trans k20.2.2.1)))).tb)
      · refine pv_then1 ?_
        refine pv_istore (pc := 23) (i := 4) (by decide) rfl (fm_dec dtX8_readLife 14 rfl) ?_
        dsimp only [List.set_cons_zero, List.set_cons_succ]
        exact xf_readLife25 b20 (by rw [(((k0.2.2.1.trans (k4.2.2.1.trans k12.2.2.1)).trans b20.2.2.2.1).1 13 9 (by decide)).1]; exact h139) (fun M2 h2 => hbad M2 kb ab (by unfold clLife; simp only [spBind, e4, e12, e20]) (h2.fr (k0.2.2.1.trans (k4.2.2.1.trans k12.2.2.1))).tb)
    · refine pv_then1 ?_
      refine pv_istoren (pc := 15) (n := 3) 3 rfl (by decide) rfl (fm_dec dtX8_readLife 9 rfl) ?_
      dsimp only [List.set_cons_zero, List.set_cons_succ]
      exact xf_readLife16 b12 (by rw [(((k0.2.2.1.trans k4.2.2.1).trans b12.2.2.2.1).1 13 9 (by decide)).1]; exact h139) (fun M2 h2 => hbad M2 kb ab (by unfold clLife; simp only [spBind, e4, e12]) (h2.fr (k0.2.2.1.trans k4.2.2.1)).tb)
  · refine pv_then1 ?_
    refine pv_istoren (pc := 7) (n := 2) 2 rfl (by decide) rfl (fm_dec dtX8_readLife 4 rfl) ?_
    dsimp only [List.set_cons_zero, List.set_cons_succ]
    exact xf_readLife8 b4 (by rw [((k0.2.2.1.trans b4.2.2.2.1).1 13 9 (by decide)).1]; exact h139) (fun M2 h2 => hbad M2 kb ab (by unfold clLife; simp only [spBind, e4]) (h2.fr k0.2.2.1).tb)
theorem st_tok {M0 M : fmM} {tx : tX} {n q i j : Nat} {D : dD} {x v : Int32} {V : Int} (h : tok M0 M tx n q D) (hj : j = 4 ∨ j = 5) (hi : i < D.1) (h8 : D.1 ≤ 8) (hx : x.toInt = i) (hv : v.toInt = V) (b0 : -1 ≤ V) (b1 : V ≤ 7 ∨ (j = 4 ∧ V ≤ 40)) : tok M0 (fmI M (14 + j) x.toNatClampNeg v) tx n q (D.1, dSet D.2.1 i j V, D.2.2) := by
  obtain ⟨hS, hf, hI, ⟨⟨g1, g2, g3, g4, g5, g6⟩, g7, g8⟩, hF⟩ := h
  rw [i32_cl hx]
  have hk : 14 + j ≠ 13 := by omega
  have hb : (scAt (invX (14 + j)) i).1 ≤ v.toInt ∧ v.toInt ≤ (scAt (invX (14 + j)) i).2 := by
    rcases hj with rfl | rfl
    · exact ⟨by show (-1 : Int) ≤ _; omega, by show _ ≤ (40 : Int); omega⟩
    · exact ⟨by show (-1 : Int) ≤ _; omega, by show _ ≤ (7 : Int); omega⟩
  refine ⟨hS.of (by rw [fmI_k _ _ (by omega)]) (by rw [fmI_k _ _ (by omega)]) (by rw [fmI_k _ _ (by omega)]), by rw [fmI_k _ _ (by omega)]; exact hf, xInv.put hI hb, ⟨⟨?_, ?_, ?_, ?_, ?_, ?_⟩, fun i' hi' j' hj' => ?_, fun i' hi' j' hj' => ?_⟩, hF.put (by omega)⟩
  · rw [fmI_k _ _ (by omega)]; exact g1
  · rw [fmI_k _ _ (by omega)]; exact g2
  · rw [fmI_k _ _ (by omega)]; exact g3
  · rw [fmI_k _ _ (by omega)]; exact g4
  · rw [fmI_k _ _ (by omega)]; exact g5
  · rw [fmI_k _ _ (by omega)]; exact g6
  · show _ = dSet D.2.1 i j V i' j'
    unfold dSet
    rw [fmI_at]
    by_cases e : i' = i ∧ j' = j
    · rw [if_pos e, if_pos ⟨by omega, e.1⟩]
      exact hv
    · rw [if_neg e, if_neg (by intro h9; exact e ⟨h9.2, by omega⟩)]
      exact g7 i' hi' j' hj'
  · show _ = D.2.2.2.1 i' j'
    rw [fmI_k _ _ (by omega)]
    exact g8 i' hi' j' hj'
set_option maxRecDepth 20000 in
theorem x_has {M : fmM} {Q : fmR → fmM → Prop} {tx : tX} {n p : Nat} {D : dD} (ht : tOk tx n) (hS : xS2 M tx n p) (hf : M.1 1 4 = 0) (hI : scInv Tx invX M) (hW : xdw 13 M D) (hD : dOk D) (hok : ∀ (M' : fmM) (D' : dD) (q : Nat), clHas tx D p = .inr (D', q) → tok M M' tx n q D' → Q (.inl (some (.int 1))) M') (hbad : ∀ (M' : fmM) (k a : Nat), clHas tx D p = .inl (k, a) → tbad M M' k a → Q (.inl (some (.int 0))) M') : pvGood Tx 3 qX8_readHas [.ref 13, .ref 1] M Q := by
  refine pvGood_of (Nat.le_of_ble_eq_true rfl) ?_
  show pvEv Tx 3 qX8_readHas 0 [some (.ref 13), some (.ref 1), none, none] [] M Q
  have k0 : xdOk M M tx n p := ⟨hS, hf, xdFr.refl M, hI⟩
  have h139 : (M.1 13 9).toInt ≤ 8 ∧ 0 ≤ (M.1 13 9).toInt := (by have h8 := hW.1.1; have h7 := hD.1; exact ⟨by omega, by omega⟩)
  have h9d := hD.1
  refine pv_aloadn (pc := 0) (n := 1) 1 rfl rfl (fm_dec dtX8_readHas 0 rfl) ?_
  refine pv_iconst (pc := 1) (v := 0) (by decide) (fm_dec dtX8_readHas 1 rfl) ?_
  refine pv_aloadn (pc := 2) (n := 0) 0 rfl rfl (fm_dec dtX8_readHas 2 rfl) ?_
  refine pv_getI (k := 13) (j := 9) (ci := 8) (pc := 3) pfl_X8_42 (by decide) rfl (by decide) (fm_dec dtX8_readHas 3 rfl) ?_
  refine pv_iconst (pc := 6) (v := 1) (by decide) (fm_dec dtX8_readHas 4 rfl) ?_
  refine pv_isub (pc := 7) (fm_dec dtX8_readHas 5 rfl) ?_
  refine pv_invV2 (k := 1) (d' := 2) (pc := 8) pcv_X8_113 (by decide) rfl (Nat.le_of_ble_eq_true rfl) (by decide) (fm_dec dtX8_readHas 6 rfl) ?_
  refine x_numC 0 ((D.1 : Int) - 1) (by decide) (by have h9 := sc_sub (x := M.1 13 9) (z := 1) (by have h8 : (1 : Int32).toInt = 1 := (by decide); have h7 : (M.1 13 9).toInt = (D.1 : Int) := hW.1.1; omega) (by have h8 : (1 : Int32).toInt = 1 := (by decide); have h7 : (M.1 13 9).toInt = (D.1 : Int) := hW.1.1; omega); have h8 : (1 : Int32).toInt = 1 := (by decide); have h7 : (M.1 13 9).toInt = (D.1 : Int) := hW.1.1; omega) (by omega) k0.1 k0.2.1 k0.2.2.2 (fun M8 a8 q8 w8 e8 hw8 k8 => ?_) (fun M8 kb ab e8 b8 => ?_)
  · refine pv_then1 ?_
    refine pv_istoren (pc := 11) (n := 2) 2 rfl (by decide) rfl (fm_dec dtX8_readHas 7 rfl) ?_
    dsimp only [List.set_cons_zero, List.set_cons_succ]
    refine pv_aloadn (pc := 12) (n := 1) 1 rfl rfl (fm_dec dtX8_readHas 8 rfl) ?_
    refine pv_iconst (pc := 13) (v := 0) (by decide) (fm_dec dtX8_readHas 9 rfl) ?_
    refine pv_bipush (pc := 14) (v := 40) (by decide) (fm_dec dtX8_readHas 10 rfl) ?_
    refine pv_invV2 (k := 1) (d' := 2) (pc := 16) pcv_X8_113 (by decide) rfl (Nat.le_of_ble_eq_true rfl) (by decide) (fm_dec dtX8_readHas 11 rfl) ?_
    refine x_numC 0 40 (by decide) (by decide) (by decide) k8.1 k8.2.1 k8.2.2.2 (fun M16 a16 q16 w16 e16 hw16 k16 => ?_) (fun M16 kb ab e16 b16 => ?_)
    · refine pv_then1 ?_
      refine pv_istoren (pc := 19) (n := 3) 3 rfl (by decide) rfl (fm_dec dtX8_readHas 12 rfl) ?_
      dsimp only [List.set_cons_zero, List.set_cons_succ]
      have hW9 : xdw 13 M16 D := hW.xd (k0.2.2.1.trans (k8.2.2.1.trans k16.2.2.1))
      have n0 := spNum_ok ht k0.1.2.2.1 e8
      have n1 := spNum_ok ht k8.1.2.2.1 e16
      have hl8 := hD.1
      refine pv_aloadn (pc := 20) (n := 1) 1 rfl rfl (fm_dec dtX8_readHas 13 rfl) ?_
      refine pv_invV0 (k := 1) (d' := 0) (pc := 21) pcv_X8_117 (by decide) rfl (Nat.le_of_ble_eq_true rfl) (by decide) (fm_dec dtX8_readHas 14 rfl) ?_
      refine c_xfailed (fun _ => ?_) (fun h9 => absurd k16.2.1 h9) 
      refine pv_then1 ?_
      refine pv_if_ne (pc := 24) 31 (by decide) (fm_dec dtX8_readHas 15 rfl) (fun hc24 => by exfalso; revert hc24; decide) (fun _ => ?_)
      refine pv_iloadn (pc := 27) (n := 2) 2 rfl rfl (fm_dec dtX8_readHas 16 rfl) ?_
      refine pv_if_ge (pc := 28) 33 (by decide) (fm_dec dtX8_readHas 17 rfl) (fun _ => ?_) (fun hc28 => by exfalso; rw [sc_le] at hc28; have h7 : (0 : Int32).toInt = 0 := (by decide); omega)
      refine pv_aloadn (pc := 33) (n := 0) 0 rfl rfl (fm_dec dtX8_readHas 20 rfl) ?_
      refine pv_getR (k := 13) (j := 4) (ci := 8) (pc := 34) 18 rfl (by decide) pfl_X8_24 (by decide) rfl (by decide) (fm_dec dtX8_readHas 21 rfl) ?_
      refine pv_iloadn (pc := 37) (n := 2) 2 rfl rfl (fm_dec dtX8_readHas 22 rfl) ?_
      refine pv_iloadn (pc := 38) (n := 3) 3 rfl rfl (fm_dec dtX8_readHas 23 rfl) ?_
      refine pv_iast (k := 18) (n := 8) (pc := 39) (by decide) rfl rfl (ix_in hw8 (by omega)) (fm_dec dtX8_readHas 24 rfl) ?_
      refine pv_iconst (pc := 40) (v := 1) (by decide) (fm_dec dtX8_readHas 25 rfl) ?_
      exact pv_zreturn (pc := 41) rfl (by first | exact Or.inr rfl | exact Or.inl rfl) (fm_dec dtX8_readHas 26 rfl) (hok _ _ _ (by unfold clHas; simp only [spBind, e8, e16]) (st_tok (j := 4) (i := a8) (V := (a16 : Int)) ⟨k16.1, k16.2.1, k16.2.2.2, hW9, ((k0.2.2.1.trans (k8.2.2.1.trans k16.2.2.1))).df⟩ (Or.inl rfl) (by omega) hl8 hw8 hw16 (by omega) (Or.inr ⟨rfl, by omega⟩)))
    · refine pv_then1 ?_
      refine pv_istoren (pc := 19) (n := 3) 3 rfl (by decide) rfl (fm_dec dtX8_readHas 12 rfl) ?_
      dsimp only [List.set_cons_zero, List.set_cons_succ]
      exact xf_readHas20 b16 (by rw [(((k0.2.2.1.trans k8.2.2.1).trans b16.2.2.2.1).1 13 9 (by decide)).1]; exact h139) (fun M2 h2 => hbad M2 kb ab (by unfold clHas; simp only [spBind, e8, e16]) (h2.fr (k0.2.2.1.trans k8.2.2.1)).tb)
  · refine pv_then1 ?_
    refine pv_istoren (pc := 11) (n := 2) 2 rfl (by decide) rfl (fm_dec dtX8_readHas 7 rfl) ?_
    dsimp only [List.set_cons_zero, List.set_cons_succ]
    exact xf_readHas12 b8 (by rw [((k0.2.2.1.trans b8.2.2.2.1).1 13 9 (by decide)).1]; exact h139) (fun M2 h2 => hbad M2 kb ab (by unfold clHas; simp only [spBind, e8]) (h2.fr k0.2.2.1).tb)
def faM (M : fmM) (a b c : Int32) : fmM := fmI (fmI (fmI (fmI M 20 (M.1 13 10).toNatClampNeg a) 21 (M.1 13 10).toNatClampNeg b) 22 (M.1 13 10).toNatClampNeg c) 13 10 (M.1 13 10 + 1)
theorem fa_tok {M0 M : fmM} {tx : tX} {n q na nb nc : Nat} {D : dD} {a b c : Int32} (h : tok M0 M tx n q D) (h8 : D.2.2.1 < 24) (ha : a.toInt = na) (hb : b.toInt = nb) (hc : c.toInt = nc) (a1 : na ≤ 7) (b1 : nb ≤ 5) (c1 : nc ≤ 60) : tok M0 (faM M a b c) tx n q (D.1, D.2.1, D.2.2.1 + 1, dRow D.2.2.2.1 D.2.2.1 [(na : Int), nb, nc], D.2.2.2.2) := by
  obtain ⟨hS, hf, hI, ⟨⟨g1, g2, g3, g4, g5, g6⟩, g7, g8⟩, hF⟩ := h
  have el : (M.1 13 10).toNatClampNeg = D.2.2.1 := i32_cl g2
  have e1 : (M.1 13 10 + 1).toInt = ((D.2.2.1 + 1 : Nat) : Int) := i32_p1 g2 (by omega)
  unfold faM
  rw [el]
  refine ⟨hS.of rfl rfl rfl, hf, ?_, ⟨⟨g1, ?_, g3, g4, g5, g6⟩, fun i hi j hj => ?_, fun i hi j hj => ?_⟩, ((((hF.put (by decide)).put (by decide)).put (by decide)).put (by decide))⟩
  · exact xInv.put (xInv.put (xInv.put (xInv.put hI ⟨by show (0 : Int) ≤ _; omega, by show _ ≤ (7 : Int); omega⟩) ⟨by show (0 : Int) ≤ _; omega, by show _ ≤ (5 : Int); omega⟩) ⟨by show (0 : Int) ≤ _; omega, by show _ ≤ (60 : Int); omega⟩) ⟨by show (0 : Int) ≤ _; omega, by show _ ≤ (24 : Int); omega⟩
  · rw [fmI_s]
    exact e1
  · have hi : i < D.1 := hi
    show _ = D.2.1 i j
    rw [← g7 i hi j hj]
    simp only [fmI_at, show ¬ (13 + 1 + j = 13) by omega, show ¬ (13 + 1 + j = 20) by omega, show ¬ (13 + 1 + j = 21) by omega, show ¬ (13 + 1 + j = 22) by omega, false_and, if_false]
  · have hi : i < D.2.2.1 + 1 := hi
    show _ = dRow D.2.2.2.1 D.2.2.1 [(na : Int), nb, nc] i j
    unfold dRow
    by_cases e : i = D.2.2.1
    · subst e
      rw [if_pos rfl]
      match j, hj with
      | 0, _ =>
        rw [fmI_k _ _ (by decide), fmI_k _ _ (by decide), fmI_k _ _ (by decide), fmI_s]
        exact ha
      | 1, _ =>
        rw [fmI_k _ _ (by decide), fmI_k _ _ (by decide), fmI_s]
        exact hb
      | 2, _ =>
        rw [fmI_k _ _ (by decide), fmI_s]
        exact hc
      | j + 3, h => omega
    · rw [if_neg e]
      rw [← g8 i (by omega) j hj]
      simp only [fmI_at, show ¬ (13 + 7 + j = 13) by omega, e, and_false, false_and, if_false]
set_option maxRecDepth 20000 in
theorem x_fact {M : fmM} {Q : fmR → fmM → Prop} {tx : tX} {n p : Nat} {D : dD} (ht : tOk tx n) (hS : xS2 M tx n p) (hf : M.1 1 4 = 0) (hI : scInv Tx invX M) (hW : xdw 13 M D) (hD : dOk D) (h24 : D.2.2.1 < 24) (hok : ∀ (M' : fmM) (D' : dD) (q : Nat), clFact tx D p = .inr (D', q) → tok M M' tx n q D' → Q (.inl (some (.int 1))) M') (hbad : ∀ (M' : fmM) (k a : Nat), clFact tx D p = .inl (k, a) → tbad M M' k a → Q (.inl (some (.int 0))) M') : pvGood Tx 3 qX8_readFact [.ref 13, .ref 1] M Q := by
  refine pvGood_of (Nat.le_of_ble_eq_true rfl) ?_
  show pvEv Tx 3 qX8_readFact 0 [some (.ref 13), some (.ref 1), none, none, none] [] M Q
  have k0 : xdOk M M tx n p := ⟨hS, hf, xdFr.refl M, hI⟩
  have h139 : (M.1 13 9).toInt ≤ 8 ∧ 0 ≤ (M.1 13 9).toInt := (by have h8 := hW.1.1; have h7 := hD.1; exact ⟨by omega, by omega⟩)
  have h9d := hD.1
  refine pv_aloadn (pc := 0) (n := 1) 1 rfl rfl (fm_dec dtX8_readFact 0 rfl) ?_
  refine pv_iconst (pc := 1) (v := 0) (by decide) (fm_dec dtX8_readFact 1 rfl) ?_
  refine pv_aloadn (pc := 2) (n := 0) 0 rfl rfl (fm_dec dtX8_readFact 2 rfl) ?_
  refine pv_getI (k := 13) (j := 9) (ci := 8) (pc := 3) pfl_X8_42 (by decide) rfl (by decide) (fm_dec dtX8_readFact 3 rfl) ?_
  refine pv_iconst (pc := 6) (v := 1) (by decide) (fm_dec dtX8_readFact 4 rfl) ?_
  refine pv_isub (pc := 7) (fm_dec dtX8_readFact 5 rfl) ?_
  refine pv_invV2 (k := 1) (d' := 2) (pc := 8) pcv_X8_113 (by decide) rfl (Nat.le_of_ble_eq_true rfl) (by decide) (fm_dec dtX8_readFact 6 rfl) ?_
  refine x_numC 0 ((D.1 : Int) - 1) (by decide) (by have h9 := sc_sub (x := M.1 13 9) (z := 1) (by have h8 : (1 : Int32).toInt = 1 := (by decide); have h7 : (M.1 13 9).toInt = (D.1 : Int) := hW.1.1; omega) (by have h8 : (1 : Int32).toInt = 1 := (by decide); have h7 : (M.1 13 9).toInt = (D.1 : Int) := hW.1.1; omega); have h8 : (1 : Int32).toInt = 1 := (by decide); have h7 : (M.1 13 9).toInt = (D.1 : Int) := hW.1.1; omega) (by omega) k0.1 k0.2.1 k0.2.2.2 (fun M8 a8 q8 w8 e8 hw8 k8 => ?_) (fun M8 kb ab e8 b8 => ?_)
  · refine pv_then1 ?_
    refine pv_istoren (pc := 11) (n := 2) 2 rfl (by decide) rfl (fm_dec dtX8_readFact 7 rfl) ?_
    dsimp only [List.set_cons_zero, List.set_cons_succ]
    refine pv_aloadn (pc := 12) (n := 1) 1 rfl rfl (fm_dec dtX8_readFact 8 rfl) ?_
    refine pv_iconst (pc := 13) (v := 0) (by decide) (fm_dec dtX8_readFact 9 rfl) ?_
    refine pv_iconst (pc := 14) (v := 5) (by decide) (fm_dec dtX8_readFact 10 rfl) ?_
    refine pv_invV2 (k := 1) (d' := 2) (pc := 15) pcv_X8_113 (by decide) rfl (Nat.le_of_ble_eq_true rfl) (by decide) (fm_dec dtX8_readFact 11 rfl) ?_
    refine x_numC 0 5 (by decide) (by decide) (by decide) k8.1 k8.2.1 k8.2.2.2 (fun M15 a15 q15 w15 e15 hw15 k15 => ?_) (fun M15 kb ab e15 b15 => ?_)
    · refine pv_then1 ?_
      refine pv_istoren (pc := 18) (n := 3) 3 rfl (by decide) rfl (fm_dec dtX8_readFact 12 rfl) ?_
      dsimp only [List.set_cons_zero, List.set_cons_succ]
      refine pv_aloadn (pc := 19) (n := 1) 1 rfl rfl (fm_dec dtX8_readFact 13 rfl) ?_
      refine pv_iconst (pc := 20) (v := 1) (by decide) (fm_dec dtX8_readFact 14 rfl) ?_
      refine pv_bipush (pc := 21) (v := 60) (by decide) (fm_dec dtX8_readFact 15 rfl) ?_
      refine pv_invV2 (k := 1) (d' := 2) (pc := 23) pcv_X8_113 (by decide) rfl (Nat.le_of_ble_eq_true rfl) (by decide) (fm_dec dtX8_readFact 16 rfl) ?_
      refine x_numC 1 60 (by decide) (by decide) (by decide) k15.1 k15.2.1 k15.2.2.2 (fun M23 a23 q23 w23 e23 hw23 k23 => ?_) (fun M23 kb ab e23 b23 => ?_)
      · refine pv_then1 ?_
        refine pv_istore (pc := 26) (i := 4) (by decide) rfl (fm_dec dtX8_readFact 17 rfl) ?_
        dsimp only [List.set_cons_zero, List.set_cons_succ]
        have hW9 : xdw 13 M23 D := hW.xd (k0.2.2.1.trans (k8.2.2.1.trans (k15.2.2.1.trans k23.2.2.1)))
        have h1 : (M23.1 13 10).toInt = (D.2.2.1 : Int) := hW9.1.2.1
        have n0 := spNum_ok ht k0.1.2.2.1 e8
        have n1 := spNum_ok ht k8.1.2.2.1 e15
        have n2 := spNum_ok ht k15.1.2.2.1 e23
        have hl8 := hD.1
        refine pv_aloadn (pc := 28) (n := 1) 1 rfl rfl (fm_dec dtX8_readFact 18 rfl) ?_
        refine pv_invV0 (k := 1) (d' := 0) (pc := 29) pcv_X8_117 (by decide) rfl (Nat.le_of_ble_eq_true rfl) (by decide) (fm_dec dtX8_readFact 19 rfl) ?_
        refine c_xfailed (fun _ => ?_) (fun h9 => absurd k23.2.1 h9) 
        refine pv_then1 ?_
        refine pv_if_ne (pc := 32) 44 (by decide) (fm_dec dtX8_readFact 20 rfl) (fun hc32 => by exfalso; revert hc32; decide) (fun _ => ?_)
        refine pv_aloadn (pc := 35) (n := 0) 0 rfl rfl (fm_dec dtX8_readFact 21 rfl) ?_
        refine pv_getI (k := 13) (j := 10) (ci := 8) (pc := 36) pfl_X8_46 (by decide) rfl (by decide) (fm_dec dtX8_readFact 22 rfl) ?_
        refine pv_bipush (pc := 39) (v := 24) (by decide) (fm_dec dtX8_readFact 23 rfl) ?_
        refine pv_icmp_lt (pc := 41) 46 (by decide) (fm_dec dtX8_readFact 24 rfl) (fun _ => ?_) (fun hc41 => by exfalso; rw [sc_lt] at hc41; have h7 : (24 : Int32).toInt = 24 := (by decide); omega)
        refine pv_aloadn (pc := 46) (n := 0) 0 rfl rfl (fm_dec dtX8_readFact 27 rfl) ?_
        refine pv_getR (k := 13) (j := 6) (ci := 8) (pc := 47) 20 rfl (by decide) pfl_X8_30 (by decide) rfl (by decide) (fm_dec dtX8_readFact 28 rfl) ?_
        refine pv_aloadn (pc := 50) (n := 0) 0 rfl rfl (fm_dec dtX8_readFact 29 rfl) ?_
        refine pv_getI (k := 13) (j := 10) (ci := 8) (pc := 51) pfl_X8_46 (by decide) rfl (by decide) (fm_dec dtX8_readFact 30 rfl) ?_
        refine pv_iloadn (pc := 54) (n := 2) 2 rfl rfl (fm_dec dtX8_readFact 31 rfl) ?_
        refine pv_iast (k := 20) (n := 24) (pc := 55) (by decide) rfl rfl (ix_in h1 h24) (fm_dec dtX8_readFact 32 rfl) ?_
        refine pv_aloadn (pc := 56) (n := 0) 0 rfl rfl (fm_dec dtX8_readFact 33 rfl) ?_
        refine pv_getR (k := 13) (j := 7) (ci := 8) (pc := 57) 21 rfl (by decide) pfl_X8_33 (by decide) rfl (by decide) (fm_dec dtX8_readFact 34 rfl) ?_
        refine pv_aloadn (pc := 60) (n := 0) 0 rfl rfl (fm_dec dtX8_readFact 35 rfl) ?_
        refine pv_getI (k := 13) (j := 10) (ci := 8) (pc := 61) pfl_X8_46 (by decide) rfl (by decide) (fm_dec dtX8_readFact 36 rfl) ?_
        refine pv_iloadn (pc := 64) (n := 3) 3 rfl rfl (fm_dec dtX8_readFact 37 rfl) ?_
        refine pv_iast (k := 21) (n := 24) (pc := 65) (by decide) rfl rfl (ix_in h1 h24) (fm_dec dtX8_readFact 38 rfl) ?_
        refine pv_aloadn (pc := 66) (n := 0) 0 rfl rfl (fm_dec dtX8_readFact 39 rfl) ?_
        refine pv_getR (k := 13) (j := 8) (ci := 8) (pc := 67) 22 rfl (by decide) pfl_X8_36 (by decide) rfl (by decide) (fm_dec dtX8_readFact 40 rfl) ?_
        refine pv_aloadn (pc := 70) (n := 0) 0 rfl rfl (fm_dec dtX8_readFact 41 rfl) ?_
        refine pv_getI (k := 13) (j := 10) (ci := 8) (pc := 71) pfl_X8_46 (by decide) rfl (by decide) (fm_dec dtX8_readFact 42 rfl) ?_
        refine pv_iload (pc := 74) (i := 4) rfl (fm_dec dtX8_readFact 43 rfl) ?_
        refine pv_iast (k := 22) (n := 24) (pc := 76) (by decide) rfl rfl (ix_in h1 h24) (fm_dec dtX8_readFact 44 rfl) ?_
        refine pv_aloadn (pc := 77) (n := 0) 0 rfl rfl (fm_dec dtX8_readFact 45 rfl) ?_
        refine pv_dup (pc := 78) rfl (fm_dec dtX8_readFact 46 rfl) ?_
        refine pv_getI (k := 13) (j := 10) (ci := 8) (pc := 79) pfl_X8_46 (by decide) rfl (by decide) (fm_dec dtX8_readFact 47 rfl) ?_
        refine pv_iconst (pc := 82) (v := 1) (by decide) (fm_dec dtX8_readFact 48 rfl) ?_
        refine pv_iadd (pc := 83) (fm_dec dtX8_readFact 49 rfl) ?_
        refine pv_putI (k := 13) (j := 10) (ci := 8) (pc := 84) pfl_X8_46 (by decide) rfl (by decide) (fm_dec dtX8_readFact 50 rfl) ?_
        refine pv_iconst (pc := 87) (v := 1) (by decide) (fm_dec dtX8_readFact 51 rfl) ?_
        exact pv_zreturn (pc := 88) rfl (by first | exact Or.inr rfl | exact Or.inl rfl) (fm_dec dtX8_readFact 52 rfl) (hok (faM M23 w8 w15 w23) _ _ (by unfold clFact; simp only [spBind, e8, e15, e23]) (fa_tok ⟨k23.1, k23.2.1, k23.2.2.2, hW9, ((k0.2.2.1.trans (k8.2.2.1.trans (k15.2.2.1.trans k23.2.2.1)))).df⟩ h24 hw8 hw15 hw23 (by omega) (by omega) (by omega)))
      · refine pv_then1 ?_
        refine pv_istore (pc := 26) (i := 4) (by decide) rfl (fm_dec dtX8_readFact 17 rfl) ?_
        dsimp only [List.set_cons_zero, List.set_cons_succ]
        exact xf_readFact28 b23 (by rw [(((k0.2.2.1.trans (k8.2.2.1.trans k15.2.2.1)).trans b23.2.2.2.1).1 13 9 (by decide)).1]; exact h139) (fun M2 h2 => hbad M2 kb ab (by unfold clFact; simp only [spBind, e8, e15, e23]) (h2.fr (k0.2.2.1.trans (k8.2.2.1.trans k15.2.2.1))).tb)
    · refine pv_then1 ?_
      refine pv_istoren (pc := 18) (n := 3) 3 rfl (by decide) rfl (fm_dec dtX8_readFact 12 rfl) ?_
      dsimp only [List.set_cons_zero, List.set_cons_succ]
      exact xf_readFact19 b15 (by rw [(((k0.2.2.1.trans k8.2.2.1).trans b15.2.2.2.1).1 13 9 (by decide)).1]; exact h139) (fun M2 h2 => hbad M2 kb ab (by unfold clFact; simp only [spBind, e8, e15]) (h2.fr (k0.2.2.1.trans k8.2.2.1)).tb)
  · refine pv_then1 ?_
    refine pv_istoren (pc := 11) (n := 2) 2 rfl (by decide) rfl (fm_dec dtX8_readFact 7 rfl) ?_
    dsimp only [List.set_cons_zero, List.set_cons_succ]
    exact xf_readFact12 b8 (by rw [((k0.2.2.1.trans b8.2.2.2.1).1 13 9 (by decide)).1]; exact h139) (fun M2 h2 => hbad M2 kb ab (by unfold clFact; simp only [spBind, e8]) (h2.fr k0.2.2.1).tb)
set_option maxRecDepth 20000 in
theorem x_by {M : fmM} {Q : fmR → fmM → Prop} {tx : tX} {n p : Nat} {D : dD} (ht : tOk tx n) (hS : xS2 M tx n p) (hf : M.1 1 4 = 0) (hI : scInv Tx invX M) (hW : xdw 13 M D) (hD : dOk D) (hok : ∀ (M' : fmM) (D' : dD) (q : Nat), clBy tx D p = .inr (D', q) → tok M M' tx n q D' → Q (.inl (some (.int 1))) M') (hbad : ∀ (M' : fmM) (k a : Nat), clBy tx D p = .inl (k, a) → tbad M M' k a → Q (.inl (some (.int 0))) M') : pvGood Tx 3 qX8_readBy [.ref 13, .ref 1] M Q := by
  refine pvGood_of (Nat.le_of_ble_eq_true rfl) ?_
  show pvEv Tx 3 qX8_readBy 0 [some (.ref 13), some (.ref 1), none, none, none] [] M Q
  have k0 : xdOk M M tx n p := ⟨hS, hf, xdFr.refl M, hI⟩
  have h139 : (M.1 13 9).toInt ≤ 8 ∧ 0 ≤ (M.1 13 9).toInt := (by have h8 := hW.1.1; have h7 := hD.1; exact ⟨by omega, by omega⟩)
  have h9d := hD.1
  refine pv_aloadn (pc := 0) (n := 1) 1 rfl rfl (fm_dec dtX8_readBy 0 rfl) ?_
  refine pv_iconst (pc := 1) (v := 0) (by decide) (fm_dec dtX8_readBy 1 rfl) ?_
  refine pv_aloadn (pc := 2) (n := 0) 0 rfl rfl (fm_dec dtX8_readBy 2 rfl) ?_
  refine pv_getI (k := 13) (j := 9) (ci := 8) (pc := 3) pfl_X8_42 (by decide) rfl (by decide) (fm_dec dtX8_readBy 3 rfl) ?_
  refine pv_iconst (pc := 6) (v := 1) (by decide) (fm_dec dtX8_readBy 4 rfl) ?_
  refine pv_isub (pc := 7) (fm_dec dtX8_readBy 5 rfl) ?_
  refine pv_invV2 (k := 1) (d' := 2) (pc := 8) pcv_X8_113 (by decide) rfl (Nat.le_of_ble_eq_true rfl) (by decide) (fm_dec dtX8_readBy 6 rfl) ?_
  refine x_numC 0 ((D.1 : Int) - 1) (by decide) (by have h9 := sc_sub (x := M.1 13 9) (z := 1) (by have h8 : (1 : Int32).toInt = 1 := (by decide); have h7 : (M.1 13 9).toInt = (D.1 : Int) := hW.1.1; omega) (by have h8 : (1 : Int32).toInt = 1 := (by decide); have h7 : (M.1 13 9).toInt = (D.1 : Int) := hW.1.1; omega); have h8 : (1 : Int32).toInt = 1 := (by decide); have h7 : (M.1 13 9).toInt = (D.1 : Int) := hW.1.1; omega) (by omega) k0.1 k0.2.1 k0.2.2.2 (fun M8 a8 q8 w8 e8 hw8 k8 => ?_) (fun M8 kb ab e8 b8 => ?_)
  · refine pv_then1 ?_
    refine pv_istoren (pc := 11) (n := 2) 2 rfl (by decide) rfl (fm_dec dtX8_readBy 7 rfl) ?_
    dsimp only [List.set_cons_zero, List.set_cons_succ]
    refine pv_aloadn (pc := 12) (n := 1) 1 rfl rfl (fm_dec dtX8_readBy 8 rfl) ?_
    refine pv_invV0 (k := 1) (d' := 1) (pc := 13) pcv_X8_88 (by decide) rfl (Nat.le_of_ble_eq_true rfl) (by decide) (fm_dec dtX8_readBy 9 rfl) ?_
    refine x_next k8.1 k8.2.1 k8.2.2.2 (fun M13 x13 hx13 k13 => ?_)
    refine pv_then1 ?_
    refine pv_istoren (pc := 16) (n := 3) 3 rfl (by decide) rfl (fm_dec dtX8_readBy 10 rfl) ?_
    dsimp only [List.set_cons_zero, List.set_cons_succ]
    refine pv_aloadn (pc := 17) (n := 1) 1 rfl rfl (fm_dec dtX8_readBy 11 rfl) ?_
    refine pv_iconst (pc := 18) (v := 0) (by decide) (fm_dec dtX8_readBy 12 rfl) ?_
    refine pv_aloadn (pc := 19) (n := 0) 0 rfl rfl (fm_dec dtX8_readBy 13 rfl) ?_
    refine pv_getI (k := 13) (j := 9) (ci := 8) (pc := 20) pfl_X8_42 (by decide) rfl (by decide) (fm_dec dtX8_readBy 14 rfl) ?_
    refine pv_iconst (pc := 23) (v := 1) (by decide) (fm_dec dtX8_readBy 15 rfl) ?_
    refine pv_isub (pc := 24) (fm_dec dtX8_readBy 16 rfl) ?_
    refine pv_invV2 (k := 1) (d' := 2) (pc := 25) pcv_X8_113 (by decide) rfl (Nat.le_of_ble_eq_true rfl) (by decide) (fm_dec dtX8_readBy 17 rfl) ?_
    refine x_numC 0 ((D.1 : Int) - 1) (by decide) (by have h9 := sc_sub (x := M13.1 13 9) (z := 1) (by have h8 : (1 : Int32).toInt = 1 := (by decide); have h7 : (M13.1 13 9).toInt = (D.1 : Int) := ((hW.xd (k8.2.2.1.trans k13.2.2.1)).1.1); omega) (by have h8 : (1 : Int32).toInt = 1 := (by decide); have h7 : (M13.1 13 9).toInt = (D.1 : Int) := ((hW.xd (k8.2.2.1.trans k13.2.2.1)).1.1); omega); have h8 : (1 : Int32).toInt = 1 := (by decide); have h7 : (M13.1 13 9).toInt = (D.1 : Int) := ((hW.xd (k8.2.2.1.trans k13.2.2.1)).1.1); omega) (by omega) k13.1 k13.2.1 k13.2.2.2 (fun M25 a25 q25 w25 e25 hw25 k25 => ?_) (fun M25 kb ab e25 b25 => ?_)
    · refine pv_then1 ?_
      refine pv_istore (pc := 28) (i := 4) (by decide) rfl (fm_dec dtX8_readBy 18 rfl) ?_
      dsimp only [List.set_cons_zero, List.set_cons_succ]
      have e25 : spNum tx 0 ((D.1 : Int) - 1) q8 = .inr (a25, q25) := (by rw [spNum_sk ht k8.1.2.2.1] at e25; exact e25)
      have hW9 : xdw 13 M25 D := hW.xd (k8.2.2.1.trans (k13.2.2.1.trans k25.2.2.1))
      have n0 := spNum_ok ht hS.2.2.1 e8
      have n1 := spNum_ok ht k8.1.2.2.1 e25
      have hl8 := hD.1
      refine pv_iload (pc := 30) (i := 4) rfl (fm_dec dtX8_readBy 19 rfl) ?_
      refine pv_iloadn (pc := 32) (n := 2) 2 rfl rfl (fm_dec dtX8_readBy 20 rfl) ?_
      refine pv_icmp_ne (pc := 33) 43 (by decide) (fm_dec dtX8_readBy 21 rfl) (fun hc33 => ?_) (fun hc33 => ?_)
      · have hab : ¬ a8 = a25 := (by intro h9; apply hc33; exact i32_ext (by omega))
        refine pv_aloadn (pc := 43) (n := 1) 1 rfl rfl (fm_dec dtX8_readBy 27 rfl) ?_
        refine pv_invV0 (k := 1) (d' := 0) (pc := 44) pcv_X8_117 (by decide) rfl (Nat.le_of_ble_eq_true rfl) (by decide) (fm_dec dtX8_readBy 28 rfl) ?_
        refine c_xfailed (fun _ => ?_) (fun h9 => absurd k25.2.1 h9) 
        refine pv_then1 ?_
        refine pv_if_ne (pc := 47) 54 (by decide) (fm_dec dtX8_readBy 29 rfl) (fun hc47 => by exfalso; revert hc47; decide) (fun _ => ?_)
        refine pv_iloadn (pc := 50) (n := 2) 2 rfl rfl (fm_dec dtX8_readBy 30 rfl) ?_
        refine pv_if_ge (pc := 51) 56 (by decide) (fm_dec dtX8_readBy 31 rfl) (fun _ => ?_) (fun hc51 => by exfalso; rw [sc_le] at hc51; have h7 : (0 : Int32).toInt = 0 := (by decide); omega)
        refine pv_aloadn (pc := 56) (n := 0) 0 rfl rfl (fm_dec dtX8_readBy 34 rfl) ?_
        refine pv_getR (k := 13) (j := 5) (ci := 8) (pc := 57) 19 rfl (by decide) pfl_X8_27 (by decide) rfl (by decide) (fm_dec dtX8_readBy 35 rfl) ?_
        refine pv_iloadn (pc := 60) (n := 2) 2 rfl rfl (fm_dec dtX8_readBy 36 rfl) ?_
        refine pv_iload (pc := 61) (i := 4) rfl (fm_dec dtX8_readBy 37 rfl) ?_
        refine pv_iast (k := 19) (n := 8) (pc := 63) (by decide) rfl rfl (ix_in hw8 (by omega)) (fm_dec dtX8_readBy 38 rfl) ?_
        refine pv_iconst (pc := 64) (v := 1) (by decide) (fm_dec dtX8_readBy 39 rfl) ?_
        exact pv_zreturn (pc := 65) rfl (by first | exact Or.inr rfl | exact Or.inl rfl) (fm_dec dtX8_readBy 40 rfl) (hok _ _ _ (by unfold clBy; simp only [spBind, e8, e25, hab, if_false]) (st_tok (j := 5) (i := a8) (V := (a25 : Int)) ⟨k25.1, k25.2.1, k25.2.2.2, hW9, ((k8.2.2.1.trans (k13.2.2.1.trans k25.2.2.1))).df⟩ (Or.inr rfl) (by omega) hl8 hw8 hw25 (by omega) (Or.inl (by omega))))
      · refine pv_aloadn (pc := 36) (n := 1) 1 rfl rfl (fm_dec dtX8_readBy 22 rfl) ?_
        refine pv_iconst (pc := 37) (v := 2) (by decide) (fm_dec dtX8_readBy 23 rfl) ?_
        refine pv_iloadn (pc := 38) (n := 3) 3 rfl rfl (fm_dec dtX8_readBy 24 rfl) ?_
        refine pv_invV2 (k := 1) (d' := 0) (pc := 39) pcv_X8_84 (by decide) rfl (Nat.le_of_ble_eq_true rfl) (by decide) (fm_dec dtX8_readBy 25 rfl) ?_
        refine c_xfail0 k25.2.1 ?_
        refine pv_then1 ?_
        refine pv_pop (pc := 42) rfl (fm_dec dtX8_readBy 26 rfl) ?_
        have hab : a8 = a25 := (by have h9 := congrArg Int32.toInt hc33; omega)
        exact xf_readBy43 (xdBad.of0 k25 hx13 (sp_le tB_1 ht k8.1.2.2.1)) (by rw [fmI_k _ _ (by decide), fmI_k _ _ (by decide), ((k8.2.2.1.trans (k13.2.2.1.trans k25.2.2.1)).1 13 9 (by decide)).1]; exact h139) (fun M2 h2 => hbad M2 2 (sk tx q8) (by unfold clBy; simp only [spBind, e8, e25, hab, if_true]) (h2.fr (k8.2.2.1.trans k13.2.2.1)).tb)
    · refine pv_then1 ?_
      refine pv_istore (pc := 28) (i := 4) (by decide) rfl (fm_dec dtX8_readBy 18 rfl) ?_
      dsimp only [List.set_cons_zero, List.set_cons_succ]
      have e25 : spNum tx 0 ((D.1 : Int) - 1) q8 = .inl (kb, ab) := (by rw [spNum_sk ht k8.1.2.2.1] at e25; exact e25)
      exact xf_readBy30 b25 (by rw [((k8.2.2.1.trans (k13.2.2.1.trans b25.2.2.2.1)).1 13 9 (by decide)).1]; exact h139) (fun M2 h2 => hbad M2 kb ab (by unfold clBy; simp only [spBind, e8, e25]) (h2.fr (k8.2.2.1.trans k13.2.2.1)).tb)
  · refine pv_then1 ?_
    refine pv_istoren (pc := 11) (n := 2) 2 rfl (by decide) rfl (fm_dec dtX8_readBy 7 rfl) ?_
    dsimp only [List.set_cons_zero, List.set_cons_succ]
    exact xf_readBy12 b8 (by rw [(b8.2.2.2.1.1 13 9 (by decide)).1]; exact h139) (fun M2 h2 => hbad M2 kb ab (by unfold clBy; simp only [spBind, e8]) h2.tb)
theorem ru_tok {M0 M : fmM} {tx : tX} {n q k v : Nat} {D : dD} {x : Int32} (h : tok M0 M tx n q D) (hk : 2 ≤ k ∧ k ≤ 5) (hx : x.toInt = v) (hb : (scAt (invX 13) (9 + k)).1 ≤ x.toInt ∧ x.toInt ≤ (scAt (invX 13) (9 + k)).2) : tok M0 (fmI M 13 (9 + k) x) tx n q (D.1, D.2.1, D.2.2.1, D.2.2.2.1, fun k' => if k' = k then (v : Int) else D.2.2.2.2 k') := by
  obtain ⟨hS, hf, hI, ⟨⟨g1, g2, g3, g4, g5, g6⟩, g7, g8⟩, hF⟩ := h
  have hp : ∀ j, 2 ≤ j → j ≤ 5 → (M.1 13 (9 + j)).toInt = D.2.2.2.2 j → ((fmI M 13 (9 + k) x).1 13 (9 + j)).toInt = if j = k then (v : Int) else D.2.2.2.2 j := fun j _ _ e => by
    by_cases e9 : j = k
    · subst e9
      rw [if_pos rfl, fmI_s]
      exact hx
    · rw [if_neg e9, fmI_j _ _ (by omega)]
      exact e
  refine ⟨hS.of rfl rfl rfl, hf, xInv.put hI hb, ⟨⟨?_, ?_, hp 2 (by decide) (by decide) g3, hp 3 (by decide) (by decide) g4, hp 4 (by decide) (by decide) g5, hp 5 (by decide) (by decide) g6⟩, fun i hi j hj => ?_, fun i hi j hj => ?_⟩, hF.put (by decide)⟩
  · rw [fmI_j _ _ (by omega)]; exact g1
  · rw [fmI_j _ _ (by omega)]; exact g2
  · rw [fmI_k _ _ (by omega)]; exact g7 i hi j hj
  · rw [fmI_k _ _ (by omega)]; exact g8 i hi j hj
theorem ru_bad {M0 M : fmM} {k a j : Nat} {x : Int32} (h : xdBad M0 M k a) (hb : (scAt (invX 13) j).1 ≤ x.toInt ∧ x.toInt ≤ (scAt (invX 13) j).2) : tbad M0 (fmI M 13 j x) k a := ⟨h.1, h.2.1, h.2.2.1, h.2.2.2.1.df.put (by decide), xInv.put h.2.2.2.2 hb⟩
set_option maxRecDepth 20000 in
theorem x_rule4 {M : fmM} {Q : fmR → fmM → Prop} {tx : tX} {n p : Nat} {D : dD} (ht : tOk tx n) (hS : xS2 M tx n p) (hf : M.1 1 4 = 0) (hI : scInv Tx invX M) (hW : xdw 13 M D) (hD : dOk D) (hok : ∀ (M' : fmM) (D' : dD) (q : Nat), clRule tx D 2 p = .inr (D', q) → tok M M' tx n q D' → Q (.inl (some (.int 1))) M') (hbad : ∀ (M' : fmM) (k a : Nat), clRule tx D 2 p = .inl (k, a) → tbad M M' k a → Q (.inl (some (.int 0))) M') : pvGood Tx 3 qX8_readRule [.ref 13, .ref 1, .int 4] M Q := by
  refine pvGood_of (Nat.le_of_ble_eq_true rfl) ?_
  show pvEv Tx 3 qX8_readRule 0 [some (.ref 13), some (.ref 1), some (.int 4)] [] M Q
  have k0 : xdOk M M tx n p := ⟨hS, hf, xdFr.refl M, hI⟩
  have h139 : (M.1 13 9).toInt ≤ 8 ∧ 0 ≤ (M.1 13 9).toInt := (by have h8 := hW.1.1; have h7 := hD.1; exact ⟨by omega, by omega⟩)
  refine pv_iloadn (pc := 0) (n := 2) 2 rfl rfl (fm_dec dtX8_readRule 0 rfl) ?_
  refine pv_table (pc := 1) 28 (by decide) rfl (fm_dec dtX8_readRule 1 rfl) ?_
  refine pv_aloadn (pc := 28) (n := 0) 0 rfl rfl (fm_dec dtX8_readRule 2 rfl) ?_
  refine pv_aloadn (pc := 29) (n := 1) 1 rfl rfl (fm_dec dtX8_readRule 3 rfl) ?_
  refine pv_iconst (pc := 30) (v := 1) (by decide) (fm_dec dtX8_readRule 4 rfl) ?_
  refine pv_bipush (pc := 31) (v := 12) (by decide) (fm_dec dtX8_readRule 5 rfl) ?_
  refine pv_invV2 (k := 1) (d' := 2) (pc := 33) pcv_X8_113 (by decide) rfl (Nat.le_of_ble_eq_true rfl) (by decide) (fm_dec dtX8_readRule 6 rfl) ?_
  refine x_numC 1 12 (by decide) (by decide) (by decide) k0.1 k0.2.1 k0.2.2.2 (fun M33 a33 q33 w33 e33 hw33 k33 => ?_) (fun M33 kb ab e33 b33 => ?_)
  · refine pv_then1 ?_
    refine pv_putI (k := 13) (j := 11) (ci := 8) (pc := 36) pfl_X8_49 (by decide) rfl (by decide) (fm_dec dtX8_readRule 7 rfl) ?_
    refine pv_goto (pc := 39) 80 (by decide) (fm_dec dtX8_readRule 8 rfl) ?_
    refine pv_aloadn (pc := 80) (n := 1) 1 rfl rfl (fm_dec dtX8_readRule 29 rfl) ?_
    refine pv_invV0 (k := 1) (d' := 0) (pc := 81) pcv_X8_117 (by decide) rfl (Nat.le_of_ble_eq_true rfl) (by decide) (fm_dec dtX8_readRule 30 rfl) ?_
    refine c_xfailed (fun _ => ?_) (fun h9 => absurd k33.2.1 h9) 
    refine pv_then1 ?_
    refine pv_if_ne (pc := 84) 91 (by decide) (fm_dec dtX8_readRule 31 rfl) (fun hc84 => by exfalso; revert hc84; decide) (fun _ => ?_)
    refine pv_iconst (pc := 87) (v := 1) (by decide) (fm_dec dtX8_readRule 32 rfl) ?_
    refine pv_goto (pc := 88) 92 (by decide) (fm_dec dtX8_readRule 33 rfl) ?_
    exact pv_zreturn (pc := 92) rfl (by first | exact Or.inr rfl | exact Or.inl rfl) (fm_dec dtX8_readRule 35 rfl) (hok _ _ _ (by unfold clRule; have e8 : spNum tx (dLo 2) (dHi 2) p = .inr (a33, q33) := e33; simp only [spBind, e8]) (ru_tok (k := 2) ⟨k33.1, k33.2.1, k33.2.2.2, hW.xd k33.2.2.1, k33.2.2.1.df⟩ (by decide) hw33 (by have n0 := spNum_ok ht hS.2.2.1 e33; exact ⟨by show ((-1) : Int) ≤ _; omega, by show _ ≤ (12 : Int); omega⟩)))
  · refine pv_then1 ?_
    refine pv_putI (k := 13) (j := 11) (ci := 8) (pc := 36) pfl_X8_49 (by decide) rfl (by decide) (fm_dec dtX8_readRule 7 rfl) ?_
    refine pv_goto (pc := 39) 80 (by decide) (fm_dec dtX8_readRule 8 rfl) ?_
    refine pv_aloadn (pc := 80) (n := 1) 1 rfl rfl (fm_dec dtX8_readRule 29 rfl) ?_
    refine pv_invV0 (k := 1) (d' := 0) (pc := 81) pcv_X8_117 (by decide) rfl (Nat.le_of_ble_eq_true rfl) (by decide) (fm_dec dtX8_readRule 30 rfl) ?_
    refine c_xfailed (fun h9 => absurd h9 b33.nz) (fun _ => ?_) 
    refine pv_then1 ?_
    refine pv_if_ne (pc := 84) 91 (by decide) (fm_dec dtX8_readRule 31 rfl) (fun _ => ?_) (fun hc84 => by exfalso; revert hc84; decide)
    refine pv_iconst (pc := 91) (v := 0) (by decide) (fm_dec dtX8_readRule 34 rfl) ?_
    exact pv_zreturn (pc := 92) rfl (by first | exact Or.inr rfl | exact Or.inl rfl) (fm_dec dtX8_readRule 35 rfl) (hbad _ kb ab (by unfold clRule; have e8 : spNum tx (dLo 2) (dHi 2) p = .inl (kb, ab) := e33; simp only [spBind, e8]) (ru_bad b33 (by decide)))
set_option maxRecDepth 20000 in
theorem x_rule5 {M : fmM} {Q : fmR → fmM → Prop} {tx : tX} {n p : Nat} {D : dD} (ht : tOk tx n) (hS : xS2 M tx n p) (hf : M.1 1 4 = 0) (hI : scInv Tx invX M) (hW : xdw 13 M D) (hD : dOk D) (hok : ∀ (M' : fmM) (D' : dD) (q : Nat), clRule tx D 3 p = .inr (D', q) → tok M M' tx n q D' → Q (.inl (some (.int 1))) M') (hbad : ∀ (M' : fmM) (k a : Nat), clRule tx D 3 p = .inl (k, a) → tbad M M' k a → Q (.inl (some (.int 0))) M') : pvGood Tx 3 qX8_readRule [.ref 13, .ref 1, .int 5] M Q := by
  refine pvGood_of (Nat.le_of_ble_eq_true rfl) ?_
  show pvEv Tx 3 qX8_readRule 0 [some (.ref 13), some (.ref 1), some (.int 5)] [] M Q
  have k0 : xdOk M M tx n p := ⟨hS, hf, xdFr.refl M, hI⟩
  have h139 : (M.1 13 9).toInt ≤ 8 ∧ 0 ≤ (M.1 13 9).toInt := (by have h8 := hW.1.1; have h7 := hD.1; exact ⟨by omega, by omega⟩)
  refine pv_iloadn (pc := 0) (n := 2) 2 rfl rfl (fm_dec dtX8_readRule 0 rfl) ?_
  refine pv_table (pc := 1) 42 (by decide) rfl (fm_dec dtX8_readRule 1 rfl) ?_
  refine pv_aloadn (pc := 42) (n := 0) 0 rfl rfl (fm_dec dtX8_readRule 9 rfl) ?_
  refine pv_aloadn (pc := 43) (n := 1) 1 rfl rfl (fm_dec dtX8_readRule 10 rfl) ?_
  refine pv_iconst (pc := 44) (v := 0) (by decide) (fm_dec dtX8_readRule 11 rfl) ?_
  refine pv_bipush (pc := 45) (v := 9) (by decide) (fm_dec dtX8_readRule 12 rfl) ?_
  refine pv_invV2 (k := 1) (d' := 2) (pc := 47) pcv_X8_113 (by decide) rfl (Nat.le_of_ble_eq_true rfl) (by decide) (fm_dec dtX8_readRule 13 rfl) ?_
  refine x_numC 0 9 (by decide) (by decide) (by decide) k0.1 k0.2.1 k0.2.2.2 (fun M47 a47 q47 w47 e47 hw47 k47 => ?_) (fun M47 kb ab e47 b47 => ?_)
  · refine pv_then1 ?_
    refine pv_putI (k := 13) (j := 12) (ci := 8) (pc := 50) pfl_X8_52 (by decide) rfl (by decide) (fm_dec dtX8_readRule 14 rfl) ?_
    refine pv_goto (pc := 53) 80 (by decide) (fm_dec dtX8_readRule 15 rfl) ?_
    refine pv_aloadn (pc := 80) (n := 1) 1 rfl rfl (fm_dec dtX8_readRule 29 rfl) ?_
    refine pv_invV0 (k := 1) (d' := 0) (pc := 81) pcv_X8_117 (by decide) rfl (Nat.le_of_ble_eq_true rfl) (by decide) (fm_dec dtX8_readRule 30 rfl) ?_
    refine c_xfailed (fun _ => ?_) (fun h9 => absurd k47.2.1 h9) 
    refine pv_then1 ?_
    refine pv_if_ne (pc := 84) 91 (by decide) (fm_dec dtX8_readRule 31 rfl) (fun hc84 => by exfalso; revert hc84; decide) (fun _ => ?_)
    refine pv_iconst (pc := 87) (v := 1) (by decide) (fm_dec dtX8_readRule 32 rfl) ?_
    refine pv_goto (pc := 88) 92 (by decide) (fm_dec dtX8_readRule 33 rfl) ?_
    exact pv_zreturn (pc := 92) rfl (by first | exact Or.inr rfl | exact Or.inl rfl) (fm_dec dtX8_readRule 35 rfl) (hok _ _ _ (by unfold clRule; have e8 : spNum tx (dLo 3) (dHi 3) p = .inr (a47, q47) := e47; simp only [spBind, e8]) (ru_tok (k := 3) ⟨k47.1, k47.2.1, k47.2.2.2, hW.xd k47.2.2.1, k47.2.2.1.df⟩ (by decide) hw47 (by have n0 := spNum_ok ht hS.2.2.1 e47; exact ⟨by show ((-1) : Int) ≤ _; omega, by show _ ≤ (9 : Int); omega⟩)))
  · refine pv_then1 ?_
    refine pv_putI (k := 13) (j := 12) (ci := 8) (pc := 50) pfl_X8_52 (by decide) rfl (by decide) (fm_dec dtX8_readRule 14 rfl) ?_
    refine pv_goto (pc := 53) 80 (by decide) (fm_dec dtX8_readRule 15 rfl) ?_
    refine pv_aloadn (pc := 80) (n := 1) 1 rfl rfl (fm_dec dtX8_readRule 29 rfl) ?_
    refine pv_invV0 (k := 1) (d' := 0) (pc := 81) pcv_X8_117 (by decide) rfl (Nat.le_of_ble_eq_true rfl) (by decide) (fm_dec dtX8_readRule 30 rfl) ?_
    refine c_xfailed (fun h9 => absurd h9 b47.nz) (fun _ => ?_) 
    refine pv_then1 ?_
    refine pv_if_ne (pc := 84) 91 (by decide) (fm_dec dtX8_readRule 31 rfl) (fun _ => ?_) (fun hc84 => by exfalso; revert hc84; decide)
    refine pv_iconst (pc := 91) (v := 0) (by decide) (fm_dec dtX8_readRule 34 rfl) ?_
    exact pv_zreturn (pc := 92) rfl (by first | exact Or.inr rfl | exact Or.inl rfl) (fm_dec dtX8_readRule 35 rfl) (hbad _ kb ab (by unfold clRule; have e8 : spNum tx (dLo 3) (dHi 3) p = .inl (kb, ab) := e47; simp only [spBind, e8]) (ru_bad b47 (by decide)))
set_option maxRecDepth 20000 in
theorem x_rule6 {M : fmM} {Q : fmR → fmM → Prop} {tx : tX} {n p : Nat} {D : dD} (ht : tOk tx n) (hS : xS2 M tx n p) (hf : M.1 1 4 = 0) (hI : scInv Tx invX M) (hW : xdw 13 M D) (hD : dOk D) (hok : ∀ (M' : fmM) (D' : dD) (q : Nat), clRule tx D 4 p = .inr (D', q) → tok M M' tx n q D' → Q (.inl (some (.int 1))) M') (hbad : ∀ (M' : fmM) (k a : Nat), clRule tx D 4 p = .inl (k, a) → tbad M M' k a → Q (.inl (some (.int 0))) M') : pvGood Tx 3 qX8_readRule [.ref 13, .ref 1, .int 6] M Q := by
  refine pvGood_of (Nat.le_of_ble_eq_true rfl) ?_
  show pvEv Tx 3 qX8_readRule 0 [some (.ref 13), some (.ref 1), some (.int 6)] [] M Q
  have k0 : xdOk M M tx n p := ⟨hS, hf, xdFr.refl M, hI⟩
  have h139 : (M.1 13 9).toInt ≤ 8 ∧ 0 ≤ (M.1 13 9).toInt := (by have h8 := hW.1.1; have h7 := hD.1; exact ⟨by omega, by omega⟩)
  refine pv_iloadn (pc := 0) (n := 2) 2 rfl rfl (fm_dec dtX8_readRule 0 rfl) ?_
  refine pv_table (pc := 1) 56 (by decide) rfl (fm_dec dtX8_readRule 1 rfl) ?_
  refine pv_aloadn (pc := 56) (n := 0) 0 rfl rfl (fm_dec dtX8_readRule 16 rfl) ?_
  refine pv_aloadn (pc := 57) (n := 1) 1 rfl rfl (fm_dec dtX8_readRule 17 rfl) ?_
  refine pv_iconst (pc := 58) (v := 0) (by decide) (fm_dec dtX8_readRule 18 rfl) ?_
  refine pv_bipush (pc := 59) (v := 9) (by decide) (fm_dec dtX8_readRule 19 rfl) ?_
  refine pv_invV2 (k := 1) (d' := 2) (pc := 61) pcv_X8_113 (by decide) rfl (Nat.le_of_ble_eq_true rfl) (by decide) (fm_dec dtX8_readRule 20 rfl) ?_
  refine x_numC 0 9 (by decide) (by decide) (by decide) k0.1 k0.2.1 k0.2.2.2 (fun M61 a61 q61 w61 e61 hw61 k61 => ?_) (fun M61 kb ab e61 b61 => ?_)
  · refine pv_then1 ?_
    refine pv_putI (k := 13) (j := 13) (ci := 8) (pc := 64) pfl_X8_55 (by decide) rfl (by decide) (fm_dec dtX8_readRule 21 rfl) ?_
    refine pv_goto (pc := 67) 80 (by decide) (fm_dec dtX8_readRule 22 rfl) ?_
    refine pv_aloadn (pc := 80) (n := 1) 1 rfl rfl (fm_dec dtX8_readRule 29 rfl) ?_
    refine pv_invV0 (k := 1) (d' := 0) (pc := 81) pcv_X8_117 (by decide) rfl (Nat.le_of_ble_eq_true rfl) (by decide) (fm_dec dtX8_readRule 30 rfl) ?_
    refine c_xfailed (fun _ => ?_) (fun h9 => absurd k61.2.1 h9) 
    refine pv_then1 ?_
    refine pv_if_ne (pc := 84) 91 (by decide) (fm_dec dtX8_readRule 31 rfl) (fun hc84 => by exfalso; revert hc84; decide) (fun _ => ?_)
    refine pv_iconst (pc := 87) (v := 1) (by decide) (fm_dec dtX8_readRule 32 rfl) ?_
    refine pv_goto (pc := 88) 92 (by decide) (fm_dec dtX8_readRule 33 rfl) ?_
    exact pv_zreturn (pc := 92) rfl (by first | exact Or.inr rfl | exact Or.inl rfl) (fm_dec dtX8_readRule 35 rfl) (hok _ _ _ (by unfold clRule; have e8 : spNum tx (dLo 4) (dHi 4) p = .inr (a61, q61) := e61; simp only [spBind, e8]) (ru_tok (k := 4) ⟨k61.1, k61.2.1, k61.2.2.2, hW.xd k61.2.2.1, k61.2.2.1.df⟩ (by decide) hw61 (by have n0 := spNum_ok ht hS.2.2.1 e61; exact ⟨by show ((-1) : Int) ≤ _; omega, by show _ ≤ (9 : Int); omega⟩)))
  · refine pv_then1 ?_
    refine pv_putI (k := 13) (j := 13) (ci := 8) (pc := 64) pfl_X8_55 (by decide) rfl (by decide) (fm_dec dtX8_readRule 21 rfl) ?_
    refine pv_goto (pc := 67) 80 (by decide) (fm_dec dtX8_readRule 22 rfl) ?_
    refine pv_aloadn (pc := 80) (n := 1) 1 rfl rfl (fm_dec dtX8_readRule 29 rfl) ?_
    refine pv_invV0 (k := 1) (d' := 0) (pc := 81) pcv_X8_117 (by decide) rfl (Nat.le_of_ble_eq_true rfl) (by decide) (fm_dec dtX8_readRule 30 rfl) ?_
    refine c_xfailed (fun h9 => absurd h9 b61.nz) (fun _ => ?_) 
    refine pv_then1 ?_
    refine pv_if_ne (pc := 84) 91 (by decide) (fm_dec dtX8_readRule 31 rfl) (fun _ => ?_) (fun hc84 => by exfalso; revert hc84; decide)
    refine pv_iconst (pc := 91) (v := 0) (by decide) (fm_dec dtX8_readRule 34 rfl) ?_
    exact pv_zreturn (pc := 92) rfl (by first | exact Or.inr rfl | exact Or.inl rfl) (fm_dec dtX8_readRule 35 rfl) (hbad _ kb ab (by unfold clRule; have e8 : spNum tx (dLo 4) (dHi 4) p = .inl (kb, ab) := e61; simp only [spBind, e8]) (ru_bad b61 (by decide)))
set_option maxRecDepth 20000 in
theorem x_rule7 {M : fmM} {Q : fmR → fmM → Prop} {tx : tX} {n p : Nat} {D : dD} (ht : tOk tx n) (hS : xS2 M tx n p) (hf : M.1 1 4 = 0) (hI : scInv Tx invX M) (hW : xdw 13 M D) (hD : dOk D) (hok : ∀ (M' : fmM) (D' : dD) (q : Nat), clRule tx D 5 p = .inr (D', q) → tok M M' tx n q D' → Q (.inl (some (.int 1))) M') (hbad : ∀ (M' : fmM) (k a : Nat), clRule tx D 5 p = .inl (k, a) → tbad M M' k a → Q (.inl (some (.int 0))) M') : pvGood Tx 3 qX8_readRule [.ref 13, .ref 1, .int 7] M Q := by
  refine pvGood_of (Nat.le_of_ble_eq_true rfl) ?_
  show pvEv Tx 3 qX8_readRule 0 [some (.ref 13), some (.ref 1), some (.int 7)] [] M Q
  have k0 : xdOk M M tx n p := ⟨hS, hf, xdFr.refl M, hI⟩
  have h139 : (M.1 13 9).toInt ≤ 8 ∧ 0 ≤ (M.1 13 9).toInt := (by have h8 := hW.1.1; have h7 := hD.1; exact ⟨by omega, by omega⟩)
  refine pv_iloadn (pc := 0) (n := 2) 2 rfl rfl (fm_dec dtX8_readRule 0 rfl) ?_
  refine pv_table (pc := 1) 70 (by decide) rfl (fm_dec dtX8_readRule 1 rfl) ?_
  refine pv_aloadn (pc := 70) (n := 0) 0 rfl rfl (fm_dec dtX8_readRule 23 rfl) ?_
  refine pv_aloadn (pc := 71) (n := 1) 1 rfl rfl (fm_dec dtX8_readRule 24 rfl) ?_
  refine pv_iconst (pc := 72) (v := 1) (by decide) (fm_dec dtX8_readRule 25 rfl) ?_
  refine pv_iconst (pc := 73) (v := 4) (by decide) (fm_dec dtX8_readRule 26 rfl) ?_
  refine pv_invV2 (k := 1) (d' := 2) (pc := 74) pcv_X8_113 (by decide) rfl (Nat.le_of_ble_eq_true rfl) (by decide) (fm_dec dtX8_readRule 27 rfl) ?_
  refine x_numC 1 4 (by decide) (by decide) (by decide) k0.1 k0.2.1 k0.2.2.2 (fun M74 a74 q74 w74 e74 hw74 k74 => ?_) (fun M74 kb ab e74 b74 => ?_)
  · refine pv_then1 ?_
    refine pv_putI (k := 13) (j := 14) (ci := 8) (pc := 77) pfl_X8_58 (by decide) rfl (by decide) (fm_dec dtX8_readRule 28 rfl) ?_
    refine pv_aloadn (pc := 80) (n := 1) 1 rfl rfl (fm_dec dtX8_readRule 29 rfl) ?_
    refine pv_invV0 (k := 1) (d' := 0) (pc := 81) pcv_X8_117 (by decide) rfl (Nat.le_of_ble_eq_true rfl) (by decide) (fm_dec dtX8_readRule 30 rfl) ?_
    refine c_xfailed (fun _ => ?_) (fun h9 => absurd k74.2.1 h9) 
    refine pv_then1 ?_
    refine pv_if_ne (pc := 84) 91 (by decide) (fm_dec dtX8_readRule 31 rfl) (fun hc84 => by exfalso; revert hc84; decide) (fun _ => ?_)
    refine pv_iconst (pc := 87) (v := 1) (by decide) (fm_dec dtX8_readRule 32 rfl) ?_
    refine pv_goto (pc := 88) 92 (by decide) (fm_dec dtX8_readRule 33 rfl) ?_
    exact pv_zreturn (pc := 92) rfl (by first | exact Or.inr rfl | exact Or.inl rfl) (fm_dec dtX8_readRule 35 rfl) (hok _ _ _ (by unfold clRule; have e8 : spNum tx (dLo 5) (dHi 5) p = .inr (a74, q74) := e74; simp only [spBind, e8]) (ru_tok (k := 5) ⟨k74.1, k74.2.1, k74.2.2.2, hW.xd k74.2.2.1, k74.2.2.1.df⟩ (by decide) hw74 (by have n0 := spNum_ok ht hS.2.2.1 e74; exact ⟨by show ((-1) : Int) ≤ _; omega, by show _ ≤ (4 : Int); omega⟩)))
  · refine pv_then1 ?_
    refine pv_putI (k := 13) (j := 14) (ci := 8) (pc := 77) pfl_X8_58 (by decide) rfl (by decide) (fm_dec dtX8_readRule 28 rfl) ?_
    refine pv_aloadn (pc := 80) (n := 1) 1 rfl rfl (fm_dec dtX8_readRule 29 rfl) ?_
    refine pv_invV0 (k := 1) (d' := 0) (pc := 81) pcv_X8_117 (by decide) rfl (Nat.le_of_ble_eq_true rfl) (by decide) (fm_dec dtX8_readRule 30 rfl) ?_
    refine c_xfailed (fun h9 => absurd h9 b74.nz) (fun _ => ?_) 
    refine pv_then1 ?_
    refine pv_if_ne (pc := 84) 91 (by decide) (fm_dec dtX8_readRule 31 rfl) (fun _ => ?_) (fun hc84 => by exfalso; revert hc84; decide)
    refine pv_iconst (pc := 91) (v := 0) (by decide) (fm_dec dtX8_readRule 34 rfl) ?_
    exact pv_zreturn (pc := 92) rfl (by first | exact Or.inr rfl | exact Or.inl rfl) (fm_dec dtX8_readRule 35 rfl) (hbad _ kb ab (by unfold clRule; have e8 : spNum tx (dLo 5) (dHi 5) p = .inl (kb, ab) := e74; simp only [spBind, e8]) (ru_bad b74 (by decide)))
theorem cb_none {tx : tX} {c p : Nat} {D : dD} (h : dwK (wd tx (sk tx p)) = none) : cBody tx c D p = .inl (1, sk tx p) := by
  unfold cBody
  rw [h]
theorem cb_full {tx : tX} {c p k : Nat} {D : dD} (h : dwK (wd tx (sk tx p)) = some k) (hf : c = 60 ∨ (k = 0 ∧ D.1 = 8) ∨ (k = 1 ∧ D.2.2.1 = 24)) : cBody tx c D p = .inl (3, sk tx p) := by
  unfold cBody
  rw [h]
  exact if_pos hf
theorem cb_go {tx : tX} {c p k : Nat} {D : dD} (h : dwK (wd tx (sk tx p)) = some k) (hf : ¬ (c = 60 ∨ (k = 0 ∧ D.1 = 8) ∨ (k = 1 ∧ D.2.2.1 = 24))) : cBody tx c D p = clB tx D k (sp tW tx (sk tx p)) := by
  unfold cBody
  rw [h]
  exact if_neg hf
theorem xdBad.of3 {M M' : fmM} {tx : tX} {n q aa : Nat} {a : Int32} (h : xdOk M M' tx n q) (ha : a.toInt = aa) (h6 : aa ≤ n) : xdBad M (fmI (fmI M' 1 4 3) 1 5 a) 3 aa := ⟨(show (3 : Int32).toInt = ((3 : Nat) : Int) by decide), ha, by decide, ((h.2.2.1.set (Or.inr (Or.inl rfl))).set (Or.inr (Or.inr rfl))), xI_45 h.2.2.2 (kk := 3) (by decide) (by decide) ha h6 h.1.2.2.2.1.1⟩
set_option maxRecDepth 20000 in
theorem x_clause {M : fmM} {Q : fmR → fmM → Prop} {tx : tX} {n p : Nat} {D : dD} {c : Nat} {cc : Int32} (ht : tOk tx n) (hS : xS2 M tx n p) (hf : M.1 1 4 = 0) (hI : scInv Tx invX M) (hW : xdw 13 M D) (hD : dOk D) (hc : cc.toInt = (c : Int)) (hc6 : c ≤ 60) (hok : ∀ (M' : fmM) (D' : dD) (q : Nat), cBody tx c D p = .inr (D', q) → tok M M' tx n q D' → Q (.inl (some (.int 1))) M') (hbad : ∀ (M' : fmM) (k a : Nat), cBody tx c D p = .inl (k, a) → tbad M M' k a → Q (.inl (some (.int 0))) M') : pvGood Tx 6 qX8_readClause [.ref 13, .ref 1, .int cc] M Q := by
  refine pvGood_of (Nat.le_of_ble_eq_true rfl) ?_
  show pvEv Tx 6 qX8_readClause 0 [some (.ref 13), some (.ref 1), some (.int cc), none, none, none] [] M Q
  have k0 : xdOk M M tx n p := ⟨hS, hf, xdFr.refl M, hI⟩
  have h139 : (M.1 13 9).toInt ≤ 8 ∧ 0 ≤ (M.1 13 9).toInt := (by have h8 := hW.1.1; have h7 := hD.1; exact ⟨by omega, by omega⟩)
  have hsp : sk tx p ≤ n := sp_le tB_1 ht hS.2.2.1
  have z60 : (60 : Int32).toInt = 60 := (by decide)
  have z8 : (8 : Int32).toInt = 8 := (by decide)
  have z24 : (24 : Int32).toInt = 24 := (by decide)
  refine pv_aloadn (pc := 0) (n := 1) 1 rfl rfl (fm_dec dtX8_readClause 0 rfl) ?_
  refine pv_invV0 (k := 1) (d' := 1) (pc := 1) pcv_X8_88 (by decide) rfl (Nat.le_of_ble_eq_true rfl) (by decide) (fm_dec dtX8_readClause 1 rfl) ?_
  refine x_next hS hf hI (fun M1 x1 hx1 k1 => ?_)
  refine pv_then1 ?_
  refine pv_istoren (pc := 4) (n := 3) 3 rfl (by decide) rfl (fm_dec dtX8_readClause 2 rfl) ?_
  dsimp only [List.set_cons_zero, List.set_cons_succ]
  refine pv_aloadn (pc := 5) (n := 1) 1 rfl rfl (fm_dec dtX8_readClause 3 rfl) ?_
  refine pv_ldcT (i := 2) (pc := 6) pkn_X8_91 ptx_X8_91 (fm_dec dtX8_readClause 4 rfl) ?_
  refine pv_invV1 (k := 1) (d' := 5) (pc := 8) pcv_X8_93 (by decide) rfl (Nat.le_of_ble_eq_true rfl) (by decide) (fm_dec dtX8_readClause 5 rfl) ?_
  refine x_word (i5 := 2) (by decide) chs_2 wsTold_ok (by decide) k1.1 k1.2.1 k1.2.2.2 (fun M8 j8 w8 e8 hw8 k8 => ?_) (fun e8 M8 b8 => ?_)  
  · refine pv_then1 ?_
    refine pv_istore (pc := 11) (i := 4) (by decide) rfl (fm_dec dtX8_readClause 6 rfl) ?_
    dsimp only [List.set_cons_zero, List.set_cons_succ]
    rw [sk_sk ht hS.2.2.1] at e8
    rw [sk_sk ht hS.2.2.1] at k8
    have hdw := dwK_of e8
    have hW8 : xdw 13 M8 D := hW.xd ((k1.2.2.1.trans k8.2.2.1))
    have g9 : (M8.1 13 9).toInt = (D.1 : Int) := hW8.1.1
    have g10 : (M8.1 13 10).toInt = (D.2.2.1 : Int) := hW8.1.2.1
    have d8 := hD.1
    have d24 := hD.2.1
    refine pv_iload (pc := 13) (i := 4) rfl (fm_dec dtX8_readClause 7 rfl) ?_
    refine pv_iconst (pc := 15) (v := (-1)) (by decide) (fm_dec dtX8_readClause 8 rfl) ?_
    refine pv_icmp_ne (pc := 16) 21 (by decide) (fm_dec dtX8_readClause 9 rfl) (fun _ => ?_) (fun hc16 => by exfalso; have h9 := congrArg Int32.toInt hc16; have h8 : (-1 : Int32).toInt = -1 := (by decide); omega)
    refine pv_iloadn (pc := 21) (n := 2) 2 rfl rfl (fm_dec dtX8_readClause 12 rfl) ?_
    refine pv_bipush (pc := 22) (v := 60) (by decide) (fm_dec dtX8_readClause 13 rfl) ?_
    refine pv_icmp_ge (pc := 24) 56 (by decide) (fm_dec dtX8_readClause 14 rfl) (fun hc24 => ?_) (fun hc24 => ?_)
    · refine pv_iconst (pc := 56) (v := 1) (by decide) (fm_dec dtX8_readClause 28 rfl) ?_
      refine pv_goto (pc := 57) 61 (by decide) (fm_dec dtX8_readClause 29 rfl) ?_
      refine pv_istore (pc := 61) (i := 5) (by decide) rfl (fm_dec dtX8_readClause 31 rfl) ?_
      dsimp only [List.set_cons_zero, List.set_cons_succ]
      refine pv_iload (pc := 63) (i := 5) rfl (fm_dec dtX8_readClause 32 rfl) ?_
      refine pv_if_eq (pc := 65) 75 (by decide) (fm_dec dtX8_readClause 33 rfl) (fun hc65 => by exfalso; revert hc65; decide) (fun _ => ?_)
      refine pv_aloadn (pc := 68) (n := 1) 1 rfl rfl (fm_dec dtX8_readClause 34 rfl) ?_
      refine pv_iconst (pc := 69) (v := 3) (by decide) (fm_dec dtX8_readClause 35 rfl) ?_
      refine pv_iloadn (pc := 70) (n := 3) 3 rfl rfl (fm_dec dtX8_readClause 36 rfl) ?_
      refine pv_invV2 (k := 1) (d' := 0) (pc := 71) pcv_X8_84 (by decide) rfl (Nat.le_of_ble_eq_true rfl) (by decide) (fm_dec dtX8_readClause 37 rfl) ?_
      refine c_xfail0 k8.2.1 ?_
      refine pv_then1 ?_
      exact pv_zreturn (pc := 74) rfl (by first | exact Or.inr rfl | exact Or.inl rfl) (fm_dec dtX8_readClause 38 rfl) (hbad _ 3 (sk tx p) (cb_full hdw.1 (Or.inl (by rw [sc_le] at hc24; omega))) ((xdBad.of3 k8 hx1 hsp).fr k1.2.2.1).tb)
    · refine pv_iload (pc := 27) (i := 4) rfl (fm_dec dtX8_readClause 15 rfl) ?_
      refine pv_if_ne (pc := 29) 41 (by decide) (fm_dec dtX8_readClause 16 rfl) (fun hc29 => ?_) (fun hc29 => ?_)
      · refine pv_iload (pc := 41) (i := 4) rfl (fm_dec dtX8_readClause 21 rfl) ?_
        refine pv_iconst (pc := 43) (v := 3) (by decide) (fm_dec dtX8_readClause 22 rfl) ?_
        refine pv_icmp_ne (pc := 44) 60 (by decide) (fm_dec dtX8_readClause 23 rfl) (fun hc44 => ?_) (fun hc44 => ?_)
        · refine pv_iconst (pc := 60) (v := 0) (by decide) (fm_dec dtX8_readClause 30 rfl) ?_
          refine pv_istore (pc := 61) (i := 5) (by decide) rfl (fm_dec dtX8_readClause 31 rfl) ?_
          dsimp only [List.set_cons_zero, List.set_cons_succ]
          refine pv_iload (pc := 63) (i := 5) rfl (fm_dec dtX8_readClause 32 rfl) ?_
          refine pv_if_eq (pc := 65) 75 (by decide) (fm_dec dtX8_readClause 33 rfl) (fun _ => ?_) (fun hc65 => by exfalso; revert hc65; decide)
          have hj0 : ¬ j8 = 0 := (by intro h9; apply hc29; exact i32_ext (by have h6 : (0 : Int32).toInt = 0 := (by decide); omega))
          have hj3 : ¬ j8 = 3 := (by intro h9; apply hc44; exact i32_ext (by have h6 : (3 : Int32).toInt = 3 := (by decide); omega))
          have hcn : ¬ c = 60 := (by rw [sc_le] at hc24; omega)
          have hj8 := hdw.2
          have hjj : j8 = 1 ∨ j8 = 2 ∨ j8 = 4 ∨ j8 = 5 ∨ j8 = 6 ∨ j8 = 7 := (by omega)
          rcases hjj with rfl | rfl | rfl | rfl | rfl | rfl
          · have e4 : w8 = (1 : Int32) := i32_ext (hw8.trans (by decide))
            subst e4
            refine pv_iload (pc := 75) (i := 4) rfl (fm_dec dtX8_readClause 39 rfl) ?_
            refine pv_table (pc := 77) 114 (by decide) rfl (fm_dec dtX8_readClause 40 rfl) ?_
            refine pv_aloadn (pc := 114) (n := 0) 0 rfl rfl (fm_dec dtX8_readClause 45 rfl) ?_
            refine pv_aloadn (pc := 115) (n := 1) 1 rfl rfl (fm_dec dtX8_readClause 46 rfl) ?_
            refine pv_invV1 (k := 13) (d' := 3) (pc := 116) pcv_X8_101 (by decide) rfl (Nat.le_of_ble_eq_true rfl) (by decide) (fm_dec dtX8_readClause 47 rfl) ?_
            refine x_has ht k8.1 k8.2.1 k8.2.2.2 hW8 hD (fun M9 D9 q9 e h9 => ?_) (fun M9 kb ab e h9 => ?_)  
            · refine pv_then1 ?_
              exact pv_zreturn (pc := 119) rfl (by first | exact Or.inr rfl | exact Or.inl rfl) (fm_dec dtX8_readClause 48 rfl) (hok M9 D9 q9 (by rw [cb_go hdw.1 (by intro h9; have h8 : kkF 1 = 6 := (by decide); rcases h9 with h9 | h9 | h9 <;> omega)]; exact e) (h9.fr ((k1.2.2.1.trans k8.2.2.1)).df))
            · refine pv_then1 ?_
              exact pv_zreturn (pc := 119) rfl (by first | exact Or.inr rfl | exact Or.inl rfl) (fm_dec dtX8_readClause 48 rfl) (hbad M9 kb ab (by rw [cb_go hdw.1 (by intro h9; have h8 : kkF 1 = 6 := (by decide); rcases h9 with h9 | h9 | h9 <;> omega)]; exact e) (h9.fr ((k1.2.2.1.trans k8.2.2.1)).df))
          · have e4 : w8 = (2 : Int32) := i32_ext (hw8.trans (by decide))
            subst e4
            refine pv_iload (pc := 75) (i := 4) rfl (fm_dec dtX8_readClause 39 rfl) ?_
            refine pv_table (pc := 77) 120 (by decide) rfl (fm_dec dtX8_readClause 40 rfl) ?_
            refine pv_aloadn (pc := 120) (n := 0) 0 rfl rfl (fm_dec dtX8_readClause 49 rfl) ?_
            refine pv_aloadn (pc := 121) (n := 1) 1 rfl rfl (fm_dec dtX8_readClause 50 rfl) ?_
            refine pv_invV1 (k := 13) (d' := 3) (pc := 122) pcv_X8_104 (by decide) rfl (Nat.le_of_ble_eq_true rfl) (by decide) (fm_dec dtX8_readClause 51 rfl) ?_
            refine x_by ht k8.1 k8.2.1 k8.2.2.2 hW8 hD (fun M9 D9 q9 e h9 => ?_) (fun M9 kb ab e h9 => ?_)  
            · refine pv_then1 ?_
              exact pv_zreturn (pc := 125) rfl (by first | exact Or.inr rfl | exact Or.inl rfl) (fm_dec dtX8_readClause 52 rfl) (hok M9 D9 q9 (by rw [cb_go hdw.1 (by intro h9; have h8 : kkF 2 = 7 := (by decide); rcases h9 with h9 | h9 | h9 <;> omega)]; exact e) (h9.fr ((k1.2.2.1.trans k8.2.2.1)).df))
            · refine pv_then1 ?_
              exact pv_zreturn (pc := 125) rfl (by first | exact Or.inr rfl | exact Or.inl rfl) (fm_dec dtX8_readClause 52 rfl) (hbad M9 kb ab (by rw [cb_go hdw.1 (by intro h9; have h8 : kkF 2 = 7 := (by decide); rcases h9 with h9 | h9 | h9 <;> omega)]; exact e) (h9.fr ((k1.2.2.1.trans k8.2.2.1)).df))
          · have e4 : w8 = (4 : Int32) := i32_ext (hw8.trans (by decide))
            subst e4
            refine pv_iload (pc := 75) (i := 4) rfl (fm_dec dtX8_readClause 39 rfl) ?_
            refine pv_table (pc := 77) 132 (by decide) rfl (fm_dec dtX8_readClause 40 rfl) ?_
            refine pv_aloadn (pc := 132) (n := 0) 0 rfl rfl (fm_dec dtX8_readClause 57 rfl) ?_
            refine pv_aloadn (pc := 133) (n := 1) 1 rfl rfl (fm_dec dtX8_readClause 58 rfl) ?_
            refine pv_iload (pc := 134) (i := 4) rfl (fm_dec dtX8_readClause 59 rfl) ?_
            refine pv_invV2 (k := 13) (d' := 3) (pc := 136) pcv_X8_110 (by decide) rfl (Nat.le_of_ble_eq_true rfl) (by decide) (fm_dec dtX8_readClause 60 rfl) ?_
            refine x_rule4 ht k8.1 k8.2.1 k8.2.2.2 hW8 hD (fun M9 D9 q9 e h9 => ?_) (fun M9 kb ab e h9 => ?_)  
            · refine pv_then1 ?_
              exact pv_zreturn (pc := 139) rfl (by first | exact Or.inr rfl | exact Or.inl rfl) (fm_dec dtX8_readClause 61 rfl) (hok M9 D9 q9 (by rw [cb_go hdw.1 (by intro h9; have h8 : kkF 4 = 2 := (by decide); rcases h9 with h9 | h9 | h9 <;> omega)]; exact e) (h9.fr ((k1.2.2.1.trans k8.2.2.1)).df))
            · refine pv_then1 ?_
              exact pv_zreturn (pc := 139) rfl (by first | exact Or.inr rfl | exact Or.inl rfl) (fm_dec dtX8_readClause 61 rfl) (hbad M9 kb ab (by rw [cb_go hdw.1 (by intro h9; have h8 : kkF 4 = 2 := (by decide); rcases h9 with h9 | h9 | h9 <;> omega)]; exact e) (h9.fr ((k1.2.2.1.trans k8.2.2.1)).df))
          · have e4 : w8 = (5 : Int32) := i32_ext (hw8.trans (by decide))
            subst e4
            refine pv_iload (pc := 75) (i := 4) rfl (fm_dec dtX8_readClause 39 rfl) ?_
            refine pv_table (pc := 77) 132 (by decide) rfl (fm_dec dtX8_readClause 40 rfl) ?_
            refine pv_aloadn (pc := 132) (n := 0) 0 rfl rfl (fm_dec dtX8_readClause 57 rfl) ?_
            refine pv_aloadn (pc := 133) (n := 1) 1 rfl rfl (fm_dec dtX8_readClause 58 rfl) ?_
            refine pv_iload (pc := 134) (i := 4) rfl (fm_dec dtX8_readClause 59 rfl) ?_
            refine pv_invV2 (k := 13) (d' := 3) (pc := 136) pcv_X8_110 (by decide) rfl (Nat.le_of_ble_eq_true rfl) (by decide) (fm_dec dtX8_readClause 60 rfl) ?_
            refine x_rule5 ht k8.1 k8.2.1 k8.2.2.2 hW8 hD (fun M9 D9 q9 e h9 => ?_) (fun M9 kb ab e h9 => ?_)  
            · refine pv_then1 ?_
              exact pv_zreturn (pc := 139) rfl (by first | exact Or.inr rfl | exact Or.inl rfl) (fm_dec dtX8_readClause 61 rfl) (hok M9 D9 q9 (by rw [cb_go hdw.1 (by intro h9; have h8 : kkF 5 = 3 := (by decide); rcases h9 with h9 | h9 | h9 <;> omega)]; exact e) (h9.fr ((k1.2.2.1.trans k8.2.2.1)).df))
            · refine pv_then1 ?_
              exact pv_zreturn (pc := 139) rfl (by first | exact Or.inr rfl | exact Or.inl rfl) (fm_dec dtX8_readClause 61 rfl) (hbad M9 kb ab (by rw [cb_go hdw.1 (by intro h9; have h8 : kkF 5 = 3 := (by decide); rcases h9 with h9 | h9 | h9 <;> omega)]; exact e) (h9.fr ((k1.2.2.1.trans k8.2.2.1)).df))
          · have e4 : w8 = (6 : Int32) := i32_ext (hw8.trans (by decide))
            subst e4
            refine pv_iload (pc := 75) (i := 4) rfl (fm_dec dtX8_readClause 39 rfl) ?_
            refine pv_table (pc := 77) 132 (by decide) rfl (fm_dec dtX8_readClause 40 rfl) ?_
            refine pv_aloadn (pc := 132) (n := 0) 0 rfl rfl (fm_dec dtX8_readClause 57 rfl) ?_
            refine pv_aloadn (pc := 133) (n := 1) 1 rfl rfl (fm_dec dtX8_readClause 58 rfl) ?_
            refine pv_iload (pc := 134) (i := 4) rfl (fm_dec dtX8_readClause 59 rfl) ?_
            refine pv_invV2 (k := 13) (d' := 3) (pc := 136) pcv_X8_110 (by decide) rfl (Nat.le_of_ble_eq_true rfl) (by decide) (fm_dec dtX8_readClause 60 rfl) ?_
            refine x_rule6 ht k8.1 k8.2.1 k8.2.2.2 hW8 hD (fun M9 D9 q9 e h9 => ?_) (fun M9 kb ab e h9 => ?_)  
            · refine pv_then1 ?_
              exact pv_zreturn (pc := 139) rfl (by first | exact Or.inr rfl | exact Or.inl rfl) (fm_dec dtX8_readClause 61 rfl) (hok M9 D9 q9 (by rw [cb_go hdw.1 (by intro h9; have h8 : kkF 6 = 4 := (by decide); rcases h9 with h9 | h9 | h9 <;> omega)]; exact e) (h9.fr ((k1.2.2.1.trans k8.2.2.1)).df))
            · refine pv_then1 ?_
              exact pv_zreturn (pc := 139) rfl (by first | exact Or.inr rfl | exact Or.inl rfl) (fm_dec dtX8_readClause 61 rfl) (hbad M9 kb ab (by rw [cb_go hdw.1 (by intro h9; have h8 : kkF 6 = 4 := (by decide); rcases h9 with h9 | h9 | h9 <;> omega)]; exact e) (h9.fr ((k1.2.2.1.trans k8.2.2.1)).df))
          · have e4 : w8 = (7 : Int32) := i32_ext (hw8.trans (by decide))
            subst e4
            refine pv_iload (pc := 75) (i := 4) rfl (fm_dec dtX8_readClause 39 rfl) ?_
            refine pv_table (pc := 77) 132 (by decide) rfl (fm_dec dtX8_readClause 40 rfl) ?_
            refine pv_aloadn (pc := 132) (n := 0) 0 rfl rfl (fm_dec dtX8_readClause 57 rfl) ?_
            refine pv_aloadn (pc := 133) (n := 1) 1 rfl rfl (fm_dec dtX8_readClause 58 rfl) ?_
            refine pv_iload (pc := 134) (i := 4) rfl (fm_dec dtX8_readClause 59 rfl) ?_
            refine pv_invV2 (k := 13) (d' := 3) (pc := 136) pcv_X8_110 (by decide) rfl (Nat.le_of_ble_eq_true rfl) (by decide) (fm_dec dtX8_readClause 60 rfl) ?_
            refine x_rule7 ht k8.1 k8.2.1 k8.2.2.2 hW8 hD (fun M9 D9 q9 e h9 => ?_) (fun M9 kb ab e h9 => ?_)  
            · refine pv_then1 ?_
              exact pv_zreturn (pc := 139) rfl (by first | exact Or.inr rfl | exact Or.inl rfl) (fm_dec dtX8_readClause 61 rfl) (hok M9 D9 q9 (by rw [cb_go hdw.1 (by intro h9; have h8 : kkF 7 = 5 := (by decide); rcases h9 with h9 | h9 | h9 <;> omega)]; exact e) (h9.fr ((k1.2.2.1.trans k8.2.2.1)).df))
            · refine pv_then1 ?_
              exact pv_zreturn (pc := 139) rfl (by first | exact Or.inr rfl | exact Or.inl rfl) (fm_dec dtX8_readClause 61 rfl) (hbad M9 kb ab (by rw [cb_go hdw.1 (by intro h9; have h8 : kkF 7 = 5 := (by decide); rcases h9 with h9 | h9 | h9 <;> omega)]; exact e) (h9.fr ((k1.2.2.1.trans k8.2.2.1)).df))
        · refine pv_aloadn (pc := 47) (n := 0) 0 rfl rfl (fm_dec dtX8_readClause 24 rfl) ?_
          refine pv_getI (k := 13) (j := 10) (ci := 8) (pc := 48) pfl_X8_46 (by decide) rfl (by decide) (fm_dec dtX8_readClause 25 rfl) ?_
          refine pv_bipush (pc := 51) (v := 24) (by decide) (fm_dec dtX8_readClause 26 rfl) ?_
          refine pv_icmp_lt (pc := 53) 60 (by decide) (fm_dec dtX8_readClause 27 rfl) (fun hc53 => ?_) (fun hc53 => ?_)
          · refine pv_iconst (pc := 60) (v := 0) (by decide) (fm_dec dtX8_readClause 30 rfl) ?_
            refine pv_istore (pc := 61) (i := 5) (by decide) rfl (fm_dec dtX8_readClause 31 rfl) ?_
            dsimp only [List.set_cons_zero, List.set_cons_succ]
            refine pv_iload (pc := 63) (i := 5) rfl (fm_dec dtX8_readClause 32 rfl) ?_
            refine pv_if_eq (pc := 65) 75 (by decide) (fm_dec dtX8_readClause 33 rfl) (fun _ => ?_) (fun hc65 => by exfalso; revert hc65; decide)
            have hj3 : j8 = 3 := (by have h7 := congrArg Int32.toInt hc44; have h6 : (3 : Int32).toInt = 3 := (by decide); omega)
            have hcn : ¬ c = 60 := (by rw [sc_le] at hc24; omega)
            have h24 : D.2.2.1 < 24 := (by rw [sc_lt] at hc53; omega)
            have hjj : j8 = 3 := (by omega)
            subst hjj
            have e4 : w8 = (3 : Int32) := i32_ext (hw8.trans (by decide))
            subst e4
            refine pv_iload (pc := 75) (i := 4) rfl (fm_dec dtX8_readClause 39 rfl) ?_
            refine pv_table (pc := 77) 126 (by decide) rfl (fm_dec dtX8_readClause 40 rfl) ?_
            refine pv_aloadn (pc := 126) (n := 0) 0 rfl rfl (fm_dec dtX8_readClause 53 rfl) ?_
            refine pv_aloadn (pc := 127) (n := 1) 1 rfl rfl (fm_dec dtX8_readClause 54 rfl) ?_
            refine pv_invV1 (k := 13) (d' := 3) (pc := 128) pcv_X8_107 (by decide) rfl (Nat.le_of_ble_eq_true rfl) (by decide) (fm_dec dtX8_readClause 55 rfl) ?_
            refine x_fact ht k8.1 k8.2.1 k8.2.2.2 hW8 hD (by omega) (fun M9 D9 q9 e h9 => ?_) (fun M9 kb ab e h9 => ?_)  
            · refine pv_then1 ?_
              exact pv_zreturn (pc := 131) rfl (by first | exact Or.inr rfl | exact Or.inl rfl) (fm_dec dtX8_readClause 56 rfl) (hok M9 D9 q9 (by rw [cb_go hdw.1 (by intro h9; have h8 : kkF 3 = 1 := (by decide); rcases h9 with h9 | h9 | h9 <;> omega)]; exact e) (h9.fr ((k1.2.2.1.trans k8.2.2.1)).df))
            · refine pv_then1 ?_
              exact pv_zreturn (pc := 131) rfl (by first | exact Or.inr rfl | exact Or.inl rfl) (fm_dec dtX8_readClause 56 rfl) (hbad M9 kb ab (by rw [cb_go hdw.1 (by intro h9; have h8 : kkF 3 = 1 := (by decide); rcases h9 with h9 | h9 | h9 <;> omega)]; exact e) (h9.fr ((k1.2.2.1.trans k8.2.2.1)).df))
          · refine pv_iconst (pc := 56) (v := 1) (by decide) (fm_dec dtX8_readClause 28 rfl) ?_
            refine pv_goto (pc := 57) 61 (by decide) (fm_dec dtX8_readClause 29 rfl) ?_
            refine pv_istore (pc := 61) (i := 5) (by decide) rfl (fm_dec dtX8_readClause 31 rfl) ?_
            dsimp only [List.set_cons_zero, List.set_cons_succ]
            refine pv_iload (pc := 63) (i := 5) rfl (fm_dec dtX8_readClause 32 rfl) ?_
            refine pv_if_eq (pc := 65) 75 (by decide) (fm_dec dtX8_readClause 33 rfl) (fun hc65 => by exfalso; revert hc65; decide) (fun _ => ?_)
            refine pv_aloadn (pc := 68) (n := 1) 1 rfl rfl (fm_dec dtX8_readClause 34 rfl) ?_
            refine pv_iconst (pc := 69) (v := 3) (by decide) (fm_dec dtX8_readClause 35 rfl) ?_
            refine pv_iloadn (pc := 70) (n := 3) 3 rfl rfl (fm_dec dtX8_readClause 36 rfl) ?_
            refine pv_invV2 (k := 1) (d' := 0) (pc := 71) pcv_X8_84 (by decide) rfl (Nat.le_of_ble_eq_true rfl) (by decide) (fm_dec dtX8_readClause 37 rfl) ?_
            refine c_xfail0 k8.2.1 ?_
            refine pv_then1 ?_
            exact pv_zreturn (pc := 74) rfl (by first | exact Or.inr rfl | exact Or.inl rfl) (fm_dec dtX8_readClause 38 rfl) (hbad _ 3 (sk tx p) (cb_full hdw.1 (Or.inr (Or.inr ⟨by have h8 : j8 = 3 := (by have h7 := congrArg Int32.toInt hc44; have h6 : (3 : Int32).toInt = 3 := (by decide); omega); subst h8; decide, by rw [sc_lt] at hc53; omega⟩))) ((xdBad.of3 k8 hx1 hsp).fr k1.2.2.1).tb)
      · refine pv_aloadn (pc := 32) (n := 0) 0 rfl rfl (fm_dec dtX8_readClause 17 rfl) ?_
        refine pv_getI (k := 13) (j := 9) (ci := 8) (pc := 33) pfl_X8_42 (by decide) rfl (by decide) (fm_dec dtX8_readClause 18 rfl) ?_
        refine pv_bipush (pc := 36) (v := 8) (by decide) (fm_dec dtX8_readClause 19 rfl) ?_
        refine pv_icmp_ge (pc := 38) 56 (by decide) (fm_dec dtX8_readClause 20 rfl) (fun hc38 => ?_) (fun hc38 => ?_)
        · refine pv_iconst (pc := 56) (v := 1) (by decide) (fm_dec dtX8_readClause 28 rfl) ?_
          refine pv_goto (pc := 57) 61 (by decide) (fm_dec dtX8_readClause 29 rfl) ?_
          refine pv_istore (pc := 61) (i := 5) (by decide) rfl (fm_dec dtX8_readClause 31 rfl) ?_
          dsimp only [List.set_cons_zero, List.set_cons_succ]
          refine pv_iload (pc := 63) (i := 5) rfl (fm_dec dtX8_readClause 32 rfl) ?_
          refine pv_if_eq (pc := 65) 75 (by decide) (fm_dec dtX8_readClause 33 rfl) (fun hc65 => by exfalso; revert hc65; decide) (fun _ => ?_)
          refine pv_aloadn (pc := 68) (n := 1) 1 rfl rfl (fm_dec dtX8_readClause 34 rfl) ?_
          refine pv_iconst (pc := 69) (v := 3) (by decide) (fm_dec dtX8_readClause 35 rfl) ?_
          refine pv_iloadn (pc := 70) (n := 3) 3 rfl rfl (fm_dec dtX8_readClause 36 rfl) ?_
          refine pv_invV2 (k := 1) (d' := 0) (pc := 71) pcv_X8_84 (by decide) rfl (Nat.le_of_ble_eq_true rfl) (by decide) (fm_dec dtX8_readClause 37 rfl) ?_
          refine c_xfail0 k8.2.1 ?_
          refine pv_then1 ?_
          exact pv_zreturn (pc := 74) rfl (by first | exact Or.inr rfl | exact Or.inl rfl) (fm_dec dtX8_readClause 38 rfl) (hbad _ 3 (sk tx p) (cb_full hdw.1 (Or.inr (Or.inl ⟨by have h8 : j8 = 0 := (by have h7 := congrArg Int32.toInt hc29; have h6 : (0 : Int32).toInt = 0 := (by decide); omega); subst h8; decide, by rw [sc_le] at hc38; omega⟩))) ((xdBad.of3 k8 hx1 hsp).fr k1.2.2.1).tb)
        · refine pv_iload (pc := 41) (i := 4) rfl (fm_dec dtX8_readClause 21 rfl) ?_
          refine pv_iconst (pc := 43) (v := 3) (by decide) (fm_dec dtX8_readClause 22 rfl) ?_
          refine pv_icmp_ne (pc := 44) 60 (by decide) (fm_dec dtX8_readClause 23 rfl) (fun _ => ?_) (fun hc44 => by exfalso; have h9 := congrArg Int32.toInt hc44; have h9 : w8.toInt = 3 := h9; have h8 := congrArg Int32.toInt hc29; have h7 : (0 : Int32).toInt = 0 := (by decide); omega)
          refine pv_iconst (pc := 60) (v := 0) (by decide) (fm_dec dtX8_readClause 30 rfl) ?_
          refine pv_istore (pc := 61) (i := 5) (by decide) rfl (fm_dec dtX8_readClause 31 rfl) ?_
          dsimp only [List.set_cons_zero, List.set_cons_succ]
          refine pv_iload (pc := 63) (i := 5) rfl (fm_dec dtX8_readClause 32 rfl) ?_
          refine pv_if_eq (pc := 65) 75 (by decide) (fm_dec dtX8_readClause 33 rfl) (fun _ => ?_) (fun hc65 => by exfalso; revert hc65; decide)
          have hj0 : j8 = 0 := (by have h7 := congrArg Int32.toInt hc29; have h6 : (0 : Int32).toInt = 0 := (by decide); omega)
          have hcn : ¬ c = 60 := (by rw [sc_le] at hc24; omega)
          have h8l : D.1 < 8 := (by rw [sc_le] at hc38; omega)
          have hjj : j8 = 0 := (by omega)
          subst hjj
          have e4 : w8 = (0 : Int32) := i32_ext (hw8.trans (by decide))
          subst e4
          refine pv_iload (pc := 75) (i := 4) rfl (fm_dec dtX8_readClause 39 rfl) ?_
          refine pv_table (pc := 77) 108 (by decide) rfl (fm_dec dtX8_readClause 40 rfl) ?_
          refine pv_aloadn (pc := 108) (n := 0) 0 rfl rfl (fm_dec dtX8_readClause 41 rfl) ?_
          refine pv_aloadn (pc := 109) (n := 1) 1 rfl rfl (fm_dec dtX8_readClause 42 rfl) ?_
          refine pv_invV1 (k := 13) (d' := 3) (pc := 110) pcv_X8_97 (by decide) rfl (Nat.le_of_ble_eq_true rfl) (by decide) (fm_dec dtX8_readClause 43 rfl) ?_
          refine x_life ht k8.1 k8.2.1 k8.2.2.2 hW8 hD (by omega) (fun M9 D9 q9 e h9 => ?_) (fun M9 kb ab e h9 => ?_)  
          · refine pv_then1 ?_
            exact pv_zreturn (pc := 113) rfl (by first | exact Or.inr rfl | exact Or.inl rfl) (fm_dec dtX8_readClause 44 rfl) (hok M9 D9 q9 (by rw [cb_go hdw.1 (by intro h9; have h8 : kkF 0 = 0 := (by decide); rcases h9 with h9 | h9 | h9 <;> omega)]; exact e) (h9.fr ((k1.2.2.1.trans k8.2.2.1)).df))
          · refine pv_then1 ?_
            exact pv_zreturn (pc := 113) rfl (by first | exact Or.inr rfl | exact Or.inl rfl) (fm_dec dtX8_readClause 44 rfl) (hbad M9 kb ab (by rw [cb_go hdw.1 (by intro h9; have h8 : kkF 0 = 0 := (by decide); rcases h9 with h9 | h9 | h9 <;> omega)]; exact e) (h9.fr ((k1.2.2.1.trans k8.2.2.1)).df))
  · refine pv_then1 ?_
    refine pv_istore (pc := 11) (i := 4) (by decide) rfl (fm_dec dtX8_readClause 6 rfl) ?_
    dsimp only [List.set_cons_zero, List.set_cons_succ]
    rw [sk_sk ht hS.2.2.1] at e8 b8
    refine pv_iload (pc := 13) (i := 4) rfl (fm_dec dtX8_readClause 7 rfl) ?_
    refine pv_iconst (pc := 15) (v := (-1)) (by decide) (fm_dec dtX8_readClause 8 rfl) ?_
    refine pv_icmp_ne (pc := 16) 21 (by decide) (fm_dec dtX8_readClause 9 rfl) (fun hc16 => by exfalso; revert hc16; decide) (fun _ => ?_)
    refine pv_iconst (pc := 19) (v := 0) (by decide) (fm_dec dtX8_readClause 10 rfl) ?_
    exact pv_zreturn (pc := 20) rfl (by first | exact Or.inr rfl | exact Or.inl rfl) (fm_dec dtX8_readClause 11 rfl) (hbad _ 1 (sk tx p) (cb_none (dwK_no e8)) (b8.fr k1.2.2.1).tb)
end
-- P 18m
section
-- THE CLASS'S DRAWER, exactly
theorem kp_in12 {k j : Nat} (h : 3 ≤ k) (h' : k < 3 + 10) : kpIn ([(3, 12)], []) k j = true := by
  simp only [kpIn, List.any_cons, List.any_nil, Bool.or_eq_true, Bool.and_eq_true, Nat.ble_eq, Bool.false_eq_true, or_false]
  omega
theorem kp_df {M M' : fmM} (h : dfFr M M') : kpt PXk M M' := fun k j hk => by
  have h9 := kpx_k hk
  exact (h.1 k j (by omega) (by omega)).1
def clrM (M : fmM) : fmM := fmI (fmI (fmI (fmI (fmI (fmI M 13 9 0) 13 10 0) 13 11 8) 13 12 5) 13 13 3) 13 14 2
theorem clr_ok {M : fmM} {tx : tX} {n : Nat} (hS : xS2 M tx n 0) (hI : scInv Tx invX M) : xS2 (clrM M) tx n 0 ∧ scInv Tx invX (clrM M) ∧ xdw 13 (clrM M) dD0 ∧ dfFr M (clrM M) := by
  refine ⟨hS.of rfl rfl rfl, ?_, ⟨⟨?_, ?_, ?_, ?_, ?_, ?_⟩, fun i h => (by cases h), fun i h => (by cases h)⟩, (((((((dfFr.refl M).put (by decide)).put (by decide)).put (by decide)).put (by decide)).put (by decide)).put (by decide))⟩
  · exact xInv.put (xInv.put (xInv.put (xInv.put (xInv.put (xInv.put hI (by decide)) (by decide)) (by decide)) (by decide)) (by decide)) (by decide)
  · show (0 : Int32).toInt = ((0 : Nat) : Int)
    decide
  · show (0 : Int32).toInt = ((0 : Nat) : Int)
    decide
  · show (8 : Int32).toInt = dD0.2.2.2.2 2
    decide
  · show (5 : Int32).toInt = dD0.2.2.2.2 3
    decide
  · show (3 : Int32).toInt = dD0.2.2.2.2 4
    decide
  · show (2 : Int32).toInt = dD0.2.2.2.2 5
    decide
theorem cb_60 {tx : tX} {c p q : Nat} {D D' : dD} (h : cBody tx c D p = .inr (D', q)) : ¬ c = 60 := by
  intro e
  subst e
  unfold cBody at h
  split at h
  · cases h
  · rw [if_pos (Or.inl rfl)] at h
    cases h
def xdEnd (M M' : fmM) (D : dD) : Prop := xdw 13 M' D ∧ dOk D ∧ M'.1 1 4 = 0 ∧ dfFr M M' ∧ scInv Tx invX M'
set_option maxRecDepth 20000 in
theorem c_xtclear {M : fmM} {Q : fmR → fmM → Prop}  (hq : Q (.inl none) (clrM M)) : pvGood Tx 0 qX8_clear [.ref 13] M Q := by
  refine pvGood_of (Nat.le_of_ble_eq_true rfl) ?_
  show pvEv Tx 0 qX8_clear 0 [some (.ref 13)] [] M Q
  refine pv_aloadn (pc := 0) (n := 0) 0 rfl rfl (fm_dec dtX8_clear 0 rfl) ?_
  refine pv_iconst (pc := 1) (v := 0) (by decide) (fm_dec dtX8_clear 1 rfl) ?_
  refine pv_putI (k := 13) (j := 9) (ci := 8) (pc := 2) pfl_X8_42 (by decide) rfl (by decide) (fm_dec dtX8_clear 2 rfl) ?_
  refine pv_aloadn (pc := 5) (n := 0) 0 rfl rfl (fm_dec dtX8_clear 3 rfl) ?_
  refine pv_iconst (pc := 6) (v := 0) (by decide) (fm_dec dtX8_clear 4 rfl) ?_
  refine pv_putI (k := 13) (j := 10) (ci := 8) (pc := 7) pfl_X8_46 (by decide) rfl (by decide) (fm_dec dtX8_clear 5 rfl) ?_
  refine pv_aloadn (pc := 10) (n := 0) 0 rfl rfl (fm_dec dtX8_clear 6 rfl) ?_
  refine pv_bipush (pc := 11) (v := 8) (by decide) (fm_dec dtX8_clear 7 rfl) ?_
  refine pv_putI (k := 13) (j := 11) (ci := 8) (pc := 13) pfl_X8_49 (by decide) rfl (by decide) (fm_dec dtX8_clear 8 rfl) ?_
  refine pv_aloadn (pc := 16) (n := 0) 0 rfl rfl (fm_dec dtX8_clear 9 rfl) ?_
  refine pv_iconst (pc := 17) (v := 5) (by decide) (fm_dec dtX8_clear 10 rfl) ?_
  refine pv_putI (k := 13) (j := 12) (ci := 8) (pc := 18) pfl_X8_52 (by decide) rfl (by decide) (fm_dec dtX8_clear 11 rfl) ?_
  refine pv_aloadn (pc := 21) (n := 0) 0 rfl rfl (fm_dec dtX8_clear 12 rfl) ?_
  refine pv_iconst (pc := 22) (v := 3) (by decide) (fm_dec dtX8_clear 13 rfl) ?_
  refine pv_putI (k := 13) (j := 13) (ci := 8) (pc := 23) pfl_X8_55 (by decide) rfl (by decide) (fm_dec dtX8_clear 14 rfl) ?_
  refine pv_aloadn (pc := 26) (n := 0) 0 rfl rfl (fm_dec dtX8_clear 15 rfl) ?_
  refine pv_iconst (pc := 27) (v := 2) (by decide) (fm_dec dtX8_clear 16 rfl) ?_
  refine pv_putI (k := 13) (j := 14) (ci := 8) (pc := 28) pfl_X8_58 (by decide) rfl (by decide) (fm_dec dtX8_clear 17 rfl) ?_
  exact pv_return (pc := 31) rfl (fm_dec dtX8_clear 18 rfl) hq
set_option maxRecDepth 20000 in
theorem xd_loop {Q : fmR → fmM → Prop} {tx : tX} {n : Nat} {M0 : fmM} (ht : tOk tx n) : ∀ (m : Nat) (M : fmM) (D : dD) (c p : Nat) (cc : Int32), xS2 M tx n p → M.1 1 4 = 0 → scInv Tx invX M → xdw 13 M D → dOk D → dfFr M0 M → cc.toInt = (c : Int) → c ≤ 60 → ¬ dwL tx n m c D (sk tx p) = .inl (9, 0) → (∀ (M2 : fmM) (D2 : dD), dwL tx n m c D (sk tx p) = .inr D2 → xdEnd M0 M2 D2 → Q (.inl (some (.int 1))) M2) → (∀ (M2 : fmM) (k a : Nat), dwL tx n m c D (sk tx p) = .inl (k, a) → tbad M0 M2 k a → Q (.inl (some (.int 0))) M2) → pvEv Tx 7 qX8_read 6 [some (.ref 13), some (.ref 1), some (.int cc)] [] M Q := by
  intro m
  induction m using Nat.strongRecOn with
  | _ m ih =>
    intro M D c p cc hS hf hI hW hD hF hcc hc60 hne hok hbad
    obtain ⟨f, rfl⟩ : ∃ f, m = f + 1 := (by cases m with | zero => exact absurd rfl hne | succ f => exact ⟨f, rfl⟩)
    refine pv_iloadn (pc := 6) (n := 2) 2 rfl rfl (fm_dec dtX8_read 4 rfl) ?_
    refine pv_bipush (pc := 7) (v := 60) (by decide) (fm_dec dtX8_read 5 rfl) ?_
    refine pv_icmp_gt (pc := 9) 48 (by decide) (fm_dec dtX8_read 6 rfl) (fun hc9 => by exfalso; rw [sc_lt] at hc9; have h7 : (60 : Int32).toInt = 60 := (by decide); omega) (fun _ => ?_)
    refine pv_aloadn (pc := 12) (n := 1) 1 rfl rfl (fm_dec dtX8_read 7 rfl) ?_
    refine pv_invV0 (k := 1) (d' := 0) (pc := 13) pcv_X8_67 (by decide) rfl (Nat.le_of_ble_eq_true rfl) (by decide) (fm_dec dtX8_read 8 rfl) ?_
    refine x_peek hS hf hI (fun M13 v13 hv13 k13 => ?_)
    refine pv_then1 ?_
    refine pv_iconst (pc := 16) (v := (-1)) (by decide) (fm_dec dtX8_read 9 rfl) ?_
    refine pv_icmp_ne (pc := 17) 22 (by decide) (fm_dec dtX8_read 10 rfl) (fun hc17 => ?_) (fun hc17 => ?_)
    · have hsp : sk tx p ≤ n := sp_le tB_1 ht hS.2.2.1
      have hnp : ¬ n ≤ sk tx p := (fun h9 => hc17 (i32_ext (by rw [hv13, ht.2.1 _ h9]; decide)))
      refine pv_aloadn (pc := 22) (n := 0) 0 rfl rfl (fm_dec dtX8_read 13 rfl) ?_
      refine pv_aloadn (pc := 23) (n := 1) 1 rfl rfl (fm_dec dtX8_read 14 rfl) ?_
      refine pv_iloadn (pc := 24) (n := 2) 2 rfl rfl (fm_dec dtX8_read 15 rfl) ?_
      refine pv_invV2 (k := 13) (d' := 6) (pc := 25) pcv_X8_73 (by decide) rfl (Nat.le_of_ble_eq_true rfl) (by decide) (fm_dec dtX8_read 16 rfl) ?_
      refine x_clause ht k13.1 k13.2.1 k13.2.2.2 (hW.xd k13.2.2.1) hD hcc hc60 (fun M25 D25 q25 e25 t25 => ?_) (fun M25 kb ab e25 b25 => ?_)  
      · refine pv_then1 ?_
        refine pv_if_eq (pc := 28) 40 (by decide) (fm_dec dtX8_read 17 rfl) (fun hc28 => by exfalso; revert hc28; decide) (fun _ => ?_)
        refine pv_aloadn (pc := 31) (n := 1) 1 rfl rfl (fm_dec dtX8_read 18 rfl) ?_
        refine pv_bipush (pc := 32) (v := 59) (by decide) (fm_dec dtX8_read 19 rfl) ?_
        refine pv_invV1 (k := 1) (d' := 1) (pc := 34) pcv_X8_77 (by decide) rfl (Nat.le_of_ble_eq_true rfl) (by decide) (fm_dec dtX8_read 20 rfl) ?_
        refine x_signC 59 (by decide) (by decide) t25.1 t25.2.1 t25.2.2.1 (fun M34 q34 e34 k34 => ?_) (fun M34 kb ab e34 b34 => ?_)
        · refine pv_then1 ?_
          refine pv_if_ne (pc := 37) 42 (by decide) (fm_dec dtX8_read 21 rfl) (fun _ => ?_) (fun hc37 => by exfalso; revert hc37; decide)
          refine pv_iincc (pc := 42) 2 1 (by decide) rfl (by decide) rfl (fm_dec dtX8_read 24 rfl) ?_
          dsimp only [List.set_cons_zero, List.set_cons_succ]
          refine pv_goto (pc := 45) 6 (by decide) (fm_dec dtX8_read 25 rfl) ?_
          have eC : spClause tx c D (sk tx p) = .inr (D25, q34) := (by rw [spClause_B, e25]; show spBind (spSign tx 59 q25) _ = _; rw [e34]; rfl)
          have hD9 := (spClause_ok ht hsp hD eC).1
          have e9 := dwL_2 (f := f) hnp eC
          rw [e9] at hne hok hbad
          have hc9 := cb_60 e25
          exact ih f (by omega) M34 D25 (c + 1) q34 _ k34.1 k34.2.1 k34.2.2.2 (t25.2.2.2.1.xd k34.2.2.1) hD9 (hF.trans (k13.2.2.1.df.trans (t25.2.2.2.2.trans k34.2.2.1.df))) (i32_p1 hcc (by omega)) (by omega) hne hok hbad
        · refine pv_then1 ?_
          refine pv_if_ne (pc := 37) 42 (by decide) (fm_dec dtX8_read 21 rfl) (fun hc37 => by exfalso; revert hc37; decide) (fun _ => ?_)
          refine pv_iconst (pc := 40) (v := 0) (by decide) (fm_dec dtX8_read 22 rfl) ?_
          exact pv_zreturn (pc := 41) rfl (by first | exact Or.inr rfl | exact Or.inl rfl) (fm_dec dtX8_read 23 rfl) (hbad _ kb ab (dwL_1 hnp (by rw [spClause_B, e25]; show spBind (spSign tx 59 q25) _ = _; rw [e34]; rfl)) ((b34.tb).fr (hF.trans (k13.2.2.1.df.trans t25.2.2.2.2))))
      · refine pv_then1 ?_
        refine pv_if_eq (pc := 28) 40 (by decide) (fm_dec dtX8_read 17 rfl) (fun _ => ?_) (fun hc28 => by exfalso; revert hc28; decide)
        refine pv_iconst (pc := 40) (v := 0) (by decide) (fm_dec dtX8_read 22 rfl) ?_
        exact pv_zreturn (pc := 41) rfl (by first | exact Or.inr rfl | exact Or.inl rfl) (fm_dec dtX8_read 23 rfl) (hbad _ kb ab (dwL_1 hnp (by rw [spClause_B, e25]; rfl)) (b25.fr (hF.trans k13.2.2.1.df)))
    · have hnp : n ≤ sk tx p := (by by_cases h9 : n ≤ sk tx p; exact h9; exfalso; have h8 := ht.2.2 (sk tx p) (by omega); rw [hc17] at hv13; have h7 : (-1 : Int32).toInt = -1 := (by decide); omega)
      refine pv_iconst (pc := 20) (v := 1) (by decide) (fm_dec dtX8_read 11 rfl) ?_
      exact pv_zreturn (pc := 21) rfl (by first | exact Or.inr rfl | exact Or.inl rfl) (fm_dec dtX8_read 12 rfl) (hok _ D (dwL_0 hnp) ⟨hW.xd k13.2.2.1, hD, k13.2.1, hF.trans k13.2.2.1.df, k13.2.2.2⟩)
set_option maxRecDepth 20000 in
theorem c_xdread {M : fmM} {Q : fmR → fmM → Prop} {tx : tX} {n : Nat} (hS : xS2 M tx n 0) (hf : M.1 1 4 = 0) (hI : scInv Tx invX M) (hok : ∀ (M2 : fmM) (D2 : dD), spDrawer tx n = .inr D2 → xdEnd M M2 D2 → Q (.inl (some (.int 1))) M2) (hbad : ∀ (M2 : fmM) (k a : Nat), spDrawer tx n = .inl (k, a) → tbad M M2 k a → Q (.inl (some (.int 0))) M2) : pvGood Tx 7 qX8_read [.ref 13, .ref 1] M Q := by
  refine pvGood_of (Nat.le_of_ble_eq_true rfl) ?_
  show pvEv Tx 7 qX8_read 0 [some (.ref 13), some (.ref 1), none] [] M Q
  refine pv_aloadn (pc := 0) (n := 0) 0 rfl rfl (fm_dec dtX8_read 0 rfl) ?_
  refine pv_invV0 (k := 13) (d' := 0) (pc := 1) pcv_X8_39 (by decide) rfl (Nat.le_of_ble_eq_true rfl) (by decide) (fm_dec dtX8_read 1 rfl) ?_
  refine c_xtclear ?_
  refine pv_then0 ?_
  refine pv_iconst (pc := 4) (v := 0) (by decide) (fm_dec dtX8_read 2 rfl) ?_
  refine pv_istoren (pc := 5) (n := 2) 2 rfl (by decide) rfl (fm_dec dtX8_read 3 rfl) ?_
  dsimp only [List.set_cons_zero, List.set_cons_succ]
  have ht := hS.2.2.2.1
  have h0 := clr_ok hS hI
  exact xd_loop ht 700 (clrM M) dD0 0 0 _ h0.1 hf h0.2.1 h0.2.2.1 dOk_0 h0.2.2.2 (by decide) (by decide) (dwL_fuel ht 700 0 dD0 (sk tx 0) (sp_le tB_1 ht (Nat.zero_le _)) dOk_0 (by have := ht.1; omega) 0) hok hbad
def cpA (M : fmM) (k1 k0 : Nat) (n : Int32) : fmM := fmA M k1 (va_cpy (M.1 k0) (M.1 k1) (Int32.toNatClampNeg 0) (Int32.toNatClampNeg 0) n.toNatClampNeg)
def cpS (M : fmM) (j : Nat) : fmM := fmI M 3 j (M.1 13 j)
def cpM (M : fmM) : fmM := (cpS (cpS (cpS (cpS (cpS (cpS (cpA (cpA (cpA (cpA (cpA (cpA (cpA (cpA (cpA M 4 14 8) 5 15 8) 6 16 8) 7 17 8) 8 18 8) 9 19 8) 10 20 24) 11 21 24) 12 22 24) 9) 10) 11) 12) 13) 14)
theorem cp_ok {M : fmM} {D : dD} (h : xdw 13 M D) (hD : dOk D) : xdw 3 (cpM M) D := by
  obtain ⟨⟨h1, h2, h3, h4, h5, h6⟩, h7, h8⟩ := h
  have d8 := hD.1
  have d24 := hD.2.1
  refine ⟨⟨h1, h2, h3, h4, h5, h6⟩, fun i hi j hj => ?_, fun i hi j hj => ?_⟩
  · match j, hj with
    | 0, _ =>
      show (va_cpy (M.1 14) (M.1 4) 0 0 8 i).toInt = _
      rw [scq_cpy, if_pos (by omega)]
      exact h7 i hi 0 (by decide)
    | 1, _ =>
      show (va_cpy (M.1 15) (M.1 5) 0 0 8 i).toInt = _
      rw [scq_cpy, if_pos (by omega)]
      exact h7 i hi 1 (by decide)
    | 2, _ =>
      show (va_cpy (M.1 16) (M.1 6) 0 0 8 i).toInt = _
      rw [scq_cpy, if_pos (by omega)]
      exact h7 i hi 2 (by decide)
    | 3, _ =>
      show (va_cpy (M.1 17) (M.1 7) 0 0 8 i).toInt = _
      rw [scq_cpy, if_pos (by omega)]
      exact h7 i hi 3 (by decide)
    | 4, _ =>
      show (va_cpy (M.1 18) (M.1 8) 0 0 8 i).toInt = _
      rw [scq_cpy, if_pos (by omega)]
      exact h7 i hi 4 (by decide)
    | 5, _ =>
      show (va_cpy (M.1 19) (M.1 9) 0 0 8 i).toInt = _
      rw [scq_cpy, if_pos (by omega)]
      exact h7 i hi 5 (by decide)
    | j + 6, h => omega
  · match j, hj with
    | 0, _ =>
      show (va_cpy (M.1 20) (M.1 10) 0 0 24 i).toInt = _
      rw [scq_cpy, if_pos (by omega)]
      exact h8 i hi 0 (by decide)
    | 1, _ =>
      show (va_cpy (M.1 21) (M.1 11) 0 0 24 i).toInt = _
      rw [scq_cpy, if_pos (by omega)]
      exact h8 i hi 1 (by decide)
    | 2, _ =>
      show (va_cpy (M.1 22) (M.1 12) 0 0 24 i).toInt = _
      rw [scq_cpy, if_pos (by omega)]
      exact h8 i hi 2 (by decide)
    | j + 3, h => omega
set_option maxRecDepth 20000 in
theorem c_xcopy {M : fmM} {Q : fmR → fmM → Prop}  (hq : Q (.inl none) (cpM M)) : pvGood Tx 0 qX8_copyFrom [.ref 3, .ref 13] M Q := by
  refine pvGood_of (Nat.le_of_ble_eq_true rfl) ?_
  show pvEv Tx 0 qX8_copyFrom 0 [some (.ref 3), some (.ref 13)] [] M Q
  refine pv_aloadn (pc := 0) (n := 1) 1 rfl rfl (fm_dec dtX8_copyFrom 0 rfl) ?_
  refine pv_getR (k := 13) (j := 0) (ci := 8) (pc := 1) 14 rfl (by decide) pfl_X8_9 (by decide) rfl (by decide) (fm_dec dtX8_copyFrom 1 rfl) ?_
  refine pv_iconst (pc := 4) (v := 0) (by decide) (fm_dec dtX8_copyFrom 2 rfl) ?_
  refine pv_aloadn (pc := 5) (n := 0) 0 rfl rfl (fm_dec dtX8_copyFrom 3 rfl) ?_
  refine pv_getR (k := 3) (j := 0) (ci := 8) (pc := 6) 4 rfl (by decide) pfl_X8_9 (by decide) rfl (by decide) (fm_dec dtX8_copyFrom 4 rfl) ?_
  refine pv_iconst (pc := 9) (v := 0) (by decide) (fm_dec dtX8_copyFrom 5 rfl) ?_
  refine pv_bipush (pc := 10) (v := 8) (by decide) (fm_dec dtX8_copyFrom 6 rfl) ?_
  refine pv_copy (k0 := 14) (k1 := 4) (n0 := 8) (n1 := 8) (pc := 12) pcm_X8_61 pcc_X8_61 (by decide) rfl rfl (by decide) rfl rfl (by decide) (by decide) (by decide) (by decide) (by decide) (Nat.le_of_ble_eq_true rfl) (fm_dec dtX8_copyFrom 7 rfl) ?_
  show pvEv Tx 0 qX8_copyFrom _ _ _ (cpA M 4 14 8) Q
  refine pv_aloadn (pc := 15) (n := 1) 1 rfl rfl (fm_dec dtX8_copyFrom 8 rfl) ?_
  refine pv_getR (k := 13) (j := 1) (ci := 8) (pc := 16) 15 rfl (by decide) pfl_X8_15 (by decide) rfl (by decide) (fm_dec dtX8_copyFrom 9 rfl) ?_
  refine pv_iconst (pc := 19) (v := 0) (by decide) (fm_dec dtX8_copyFrom 10 rfl) ?_
  refine pv_aloadn (pc := 20) (n := 0) 0 rfl rfl (fm_dec dtX8_copyFrom 11 rfl) ?_
  refine pv_getR (k := 3) (j := 1) (ci := 8) (pc := 21) 5 rfl (by decide) pfl_X8_15 (by decide) rfl (by decide) (fm_dec dtX8_copyFrom 12 rfl) ?_
  refine pv_iconst (pc := 24) (v := 0) (by decide) (fm_dec dtX8_copyFrom 13 rfl) ?_
  refine pv_bipush (pc := 25) (v := 8) (by decide) (fm_dec dtX8_copyFrom 14 rfl) ?_
  refine pv_copy (k0 := 15) (k1 := 5) (n0 := 8) (n1 := 8) (pc := 27) pcm_X8_61 pcc_X8_61 (by decide) rfl rfl (by decide) rfl rfl (by decide) (by decide) (by decide) (by decide) (by decide) (Nat.le_of_ble_eq_true rfl) (fm_dec dtX8_copyFrom 15 rfl) ?_
  show pvEv Tx 0 qX8_copyFrom _ _ _ (cpA (cpA M 4 14 8) 5 15 8) Q
  refine pv_aloadn (pc := 30) (n := 1) 1 rfl rfl (fm_dec dtX8_copyFrom 16 rfl) ?_
  refine pv_getR (k := 13) (j := 2) (ci := 8) (pc := 31) 16 rfl (by decide) pfl_X8_18 (by decide) rfl (by decide) (fm_dec dtX8_copyFrom 17 rfl) ?_
  refine pv_iconst (pc := 34) (v := 0) (by decide) (fm_dec dtX8_copyFrom 18 rfl) ?_
  refine pv_aloadn (pc := 35) (n := 0) 0 rfl rfl (fm_dec dtX8_copyFrom 19 rfl) ?_
  refine pv_getR (k := 3) (j := 2) (ci := 8) (pc := 36) 6 rfl (by decide) pfl_X8_18 (by decide) rfl (by decide) (fm_dec dtX8_copyFrom 20 rfl) ?_
  refine pv_iconst (pc := 39) (v := 0) (by decide) (fm_dec dtX8_copyFrom 21 rfl) ?_
  refine pv_bipush (pc := 40) (v := 8) (by decide) (fm_dec dtX8_copyFrom 22 rfl) ?_
  refine pv_copy (k0 := 16) (k1 := 6) (n0 := 8) (n1 := 8) (pc := 42) pcm_X8_61 pcc_X8_61 (by decide) rfl rfl (by decide) rfl rfl (by decide) (by decide) (by decide) (by decide) (by decide) (Nat.le_of_ble_eq_true rfl) (fm_dec dtX8_copyFrom 23 rfl) ?_
  show pvEv Tx 0 qX8_copyFrom _ _ _ (cpA (cpA (cpA M 4 14 8) 5 15 8) 6 16 8) Q
  refine pv_aloadn (pc := 45) (n := 1) 1 rfl rfl (fm_dec dtX8_copyFrom 24 rfl) ?_
  refine pv_getR (k := 13) (j := 3) (ci := 8) (pc := 46) 17 rfl (by decide) pfl_X8_21 (by decide) rfl (by decide) (fm_dec dtX8_copyFrom 25 rfl) ?_
  refine pv_iconst (pc := 49) (v := 0) (by decide) (fm_dec dtX8_copyFrom 26 rfl) ?_
  refine pv_aloadn (pc := 50) (n := 0) 0 rfl rfl (fm_dec dtX8_copyFrom 27 rfl) ?_
  refine pv_getR (k := 3) (j := 3) (ci := 8) (pc := 51) 7 rfl (by decide) pfl_X8_21 (by decide) rfl (by decide) (fm_dec dtX8_copyFrom 28 rfl) ?_
  refine pv_iconst (pc := 54) (v := 0) (by decide) (fm_dec dtX8_copyFrom 29 rfl) ?_
  refine pv_bipush (pc := 55) (v := 8) (by decide) (fm_dec dtX8_copyFrom 30 rfl) ?_
  refine pv_copy (k0 := 17) (k1 := 7) (n0 := 8) (n1 := 8) (pc := 57) pcm_X8_61 pcc_X8_61 (by decide) rfl rfl (by decide) rfl rfl (by decide) (by decide) (by decide) (by decide) (by decide) (Nat.le_of_ble_eq_true rfl) (fm_dec dtX8_copyFrom 31 rfl) ?_
  show pvEv Tx 0 qX8_copyFrom _ _ _ (cpA (cpA (cpA (cpA M 4 14 8) 5 15 8) 6 16 8) 7 17 8) Q
  refine pv_aloadn (pc := 60) (n := 1) 1 rfl rfl (fm_dec dtX8_copyFrom 32 rfl) ?_
  refine pv_getR (k := 13) (j := 4) (ci := 8) (pc := 61) 18 rfl (by decide) pfl_X8_24 (by decide) rfl (by decide) (fm_dec dtX8_copyFrom 33 rfl) ?_
  refine pv_iconst (pc := 64) (v := 0) (by decide) (fm_dec dtX8_copyFrom 34 rfl) ?_
  refine pv_aloadn (pc := 65) (n := 0) 0 rfl rfl (fm_dec dtX8_copyFrom 35 rfl) ?_
  refine pv_getR (k := 3) (j := 4) (ci := 8) (pc := 66) 8 rfl (by decide) pfl_X8_24 (by decide) rfl (by decide) (fm_dec dtX8_copyFrom 36 rfl) ?_
  refine pv_iconst (pc := 69) (v := 0) (by decide) (fm_dec dtX8_copyFrom 37 rfl) ?_
  refine pv_bipush (pc := 70) (v := 8) (by decide) (fm_dec dtX8_copyFrom 38 rfl) ?_
  refine pv_copy (k0 := 18) (k1 := 8) (n0 := 8) (n1 := 8) (pc := 72) pcm_X8_61 pcc_X8_61 (by decide) rfl rfl (by decide) rfl rfl (by decide) (by decide) (by decide) (by decide) (by decide) (Nat.le_of_ble_eq_true rfl) (fm_dec dtX8_copyFrom 39 rfl) ?_
  show pvEv Tx 0 qX8_copyFrom _ _ _ (cpA (cpA (cpA (cpA (cpA M 4 14 8) 5 15 8) 6 16 8) 7 17 8) 8 18 8) Q
  refine pv_aloadn (pc := 75) (n := 1) 1 rfl rfl (fm_dec dtX8_copyFrom 40 rfl) ?_
  refine pv_getR (k := 13) (j := 5) (ci := 8) (pc := 76) 19 rfl (by decide) pfl_X8_27 (by decide) rfl (by decide) (fm_dec dtX8_copyFrom 41 rfl) ?_
  refine pv_iconst (pc := 79) (v := 0) (by decide) (fm_dec dtX8_copyFrom 42 rfl) ?_
  refine pv_aloadn (pc := 80) (n := 0) 0 rfl rfl (fm_dec dtX8_copyFrom 43 rfl) ?_
  refine pv_getR (k := 3) (j := 5) (ci := 8) (pc := 81) 9 rfl (by decide) pfl_X8_27 (by decide) rfl (by decide) (fm_dec dtX8_copyFrom 44 rfl) ?_
  refine pv_iconst (pc := 84) (v := 0) (by decide) (fm_dec dtX8_copyFrom 45 rfl) ?_
  refine pv_bipush (pc := 85) (v := 8) (by decide) (fm_dec dtX8_copyFrom 46 rfl) ?_
  refine pv_copy (k0 := 19) (k1 := 9) (n0 := 8) (n1 := 8) (pc := 87) pcm_X8_61 pcc_X8_61 (by decide) rfl rfl (by decide) rfl rfl (by decide) (by decide) (by decide) (by decide) (by decide) (Nat.le_of_ble_eq_true rfl) (fm_dec dtX8_copyFrom 47 rfl) ?_
  show pvEv Tx 0 qX8_copyFrom _ _ _ (cpA (cpA (cpA (cpA (cpA (cpA M 4 14 8) 5 15 8) 6 16 8) 7 17 8) 8 18 8) 9 19 8) Q
  refine pv_aloadn (pc := 90) (n := 1) 1 rfl rfl (fm_dec dtX8_copyFrom 48 rfl) ?_
  refine pv_getR (k := 13) (j := 6) (ci := 8) (pc := 91) 20 rfl (by decide) pfl_X8_30 (by decide) rfl (by decide) (fm_dec dtX8_copyFrom 49 rfl) ?_
  refine pv_iconst (pc := 94) (v := 0) (by decide) (fm_dec dtX8_copyFrom 50 rfl) ?_
  refine pv_aloadn (pc := 95) (n := 0) 0 rfl rfl (fm_dec dtX8_copyFrom 51 rfl) ?_
  refine pv_getR (k := 3) (j := 6) (ci := 8) (pc := 96) 10 rfl (by decide) pfl_X8_30 (by decide) rfl (by decide) (fm_dec dtX8_copyFrom 52 rfl) ?_
  refine pv_iconst (pc := 99) (v := 0) (by decide) (fm_dec dtX8_copyFrom 53 rfl) ?_
  refine pv_bipush (pc := 100) (v := 24) (by decide) (fm_dec dtX8_copyFrom 54 rfl) ?_
  refine pv_copy (k0 := 20) (k1 := 10) (n0 := 24) (n1 := 24) (pc := 102) pcm_X8_61 pcc_X8_61 (by decide) rfl rfl (by decide) rfl rfl (by decide) (by decide) (by decide) (by decide) (by decide) (Nat.le_of_ble_eq_true rfl) (fm_dec dtX8_copyFrom 55 rfl) ?_
  show pvEv Tx 0 qX8_copyFrom _ _ _ (cpA (cpA (cpA (cpA (cpA (cpA (cpA M 4 14 8) 5 15 8) 6 16 8) 7 17 8) 8 18 8) 9 19 8) 10 20 24) Q
  refine pv_aloadn (pc := 105) (n := 1) 1 rfl rfl (fm_dec dtX8_copyFrom 56 rfl) ?_
  refine pv_getR (k := 13) (j := 7) (ci := 8) (pc := 106) 21 rfl (by decide) pfl_X8_33 (by decide) rfl (by decide) (fm_dec dtX8_copyFrom 57 rfl) ?_
  refine pv_iconst (pc := 109) (v := 0) (by decide) (fm_dec dtX8_copyFrom 58 rfl) ?_
  refine pv_aloadn (pc := 110) (n := 0) 0 rfl rfl (fm_dec dtX8_copyFrom 59 rfl) ?_
  refine pv_getR (k := 3) (j := 7) (ci := 8) (pc := 111) 11 rfl (by decide) pfl_X8_33 (by decide) rfl (by decide) (fm_dec dtX8_copyFrom 60 rfl) ?_
  refine pv_iconst (pc := 114) (v := 0) (by decide) (fm_dec dtX8_copyFrom 61 rfl) ?_
  refine pv_bipush (pc := 115) (v := 24) (by decide) (fm_dec dtX8_copyFrom 62 rfl) ?_
  refine pv_copy (k0 := 21) (k1 := 11) (n0 := 24) (n1 := 24) (pc := 117) pcm_X8_61 pcc_X8_61 (by decide) rfl rfl (by decide) rfl rfl (by decide) (by decide) (by decide) (by decide) (by decide) (Nat.le_of_ble_eq_true rfl) (fm_dec dtX8_copyFrom 63 rfl) ?_
  show pvEv Tx 0 qX8_copyFrom _ _ _ (cpA (cpA (cpA (cpA (cpA (cpA (cpA (cpA M 4 14 8) 5 15 8) 6 16 8) 7 17 8) 8 18 8) 9 19 8) 10 20 24) 11 21 24) Q
  refine pv_aloadn (pc := 120) (n := 1) 1 rfl rfl (fm_dec dtX8_copyFrom 64 rfl) ?_
  refine pv_getR (k := 13) (j := 8) (ci := 8) (pc := 121) 22 rfl (by decide) pfl_X8_36 (by decide) rfl (by decide) (fm_dec dtX8_copyFrom 65 rfl) ?_
  refine pv_iconst (pc := 124) (v := 0) (by decide) (fm_dec dtX8_copyFrom 66 rfl) ?_
  refine pv_aloadn (pc := 125) (n := 0) 0 rfl rfl (fm_dec dtX8_copyFrom 67 rfl) ?_
  refine pv_getR (k := 3) (j := 8) (ci := 8) (pc := 126) 12 rfl (by decide) pfl_X8_36 (by decide) rfl (by decide) (fm_dec dtX8_copyFrom 68 rfl) ?_
  refine pv_iconst (pc := 129) (v := 0) (by decide) (fm_dec dtX8_copyFrom 69 rfl) ?_
  refine pv_bipush (pc := 130) (v := 24) (by decide) (fm_dec dtX8_copyFrom 70 rfl) ?_
  refine pv_copy (k0 := 22) (k1 := 12) (n0 := 24) (n1 := 24) (pc := 132) pcm_X8_61 pcc_X8_61 (by decide) rfl rfl (by decide) rfl rfl (by decide) (by decide) (by decide) (by decide) (by decide) (Nat.le_of_ble_eq_true rfl) (fm_dec dtX8_copyFrom 71 rfl) ?_
  show pvEv Tx 0 qX8_copyFrom _ _ _ (cpA (cpA (cpA (cpA (cpA (cpA (cpA (cpA (cpA M 4 14 8) 5 15 8) 6 16 8) 7 17 8) 8 18 8) 9 19 8) 10 20 24) 11 21 24) 12 22 24) Q
  refine pv_aloadn (pc := 135) (n := 0) 0 rfl rfl (fm_dec dtX8_copyFrom 72 rfl) ?_
  refine pv_aloadn (pc := 136) (n := 1) 1 rfl rfl (fm_dec dtX8_copyFrom 73 rfl) ?_
  refine pv_getI (k := 13) (j := 9) (ci := 8) (pc := 137) pfl_X8_42 (by decide) rfl (by decide) (fm_dec dtX8_copyFrom 74 rfl) ?_
  refine pv_putI (k := 3) (j := 9) (ci := 8) (pc := 140) pfl_X8_42 (by decide) rfl (by decide) (fm_dec dtX8_copyFrom 75 rfl) ?_
  show pvEv Tx 0 qX8_copyFrom _ _ _ (cpS (cpA (cpA (cpA (cpA (cpA (cpA (cpA (cpA (cpA M 4 14 8) 5 15 8) 6 16 8) 7 17 8) 8 18 8) 9 19 8) 10 20 24) 11 21 24) 12 22 24) 9) Q
  refine pv_aloadn (pc := 143) (n := 0) 0 rfl rfl (fm_dec dtX8_copyFrom 76 rfl) ?_
  refine pv_aloadn (pc := 144) (n := 1) 1 rfl rfl (fm_dec dtX8_copyFrom 77 rfl) ?_
  refine pv_getI (k := 13) (j := 10) (ci := 8) (pc := 145) pfl_X8_46 (by decide) rfl (by decide) (fm_dec dtX8_copyFrom 78 rfl) ?_
  refine pv_putI (k := 3) (j := 10) (ci := 8) (pc := 148) pfl_X8_46 (by decide) rfl (by decide) (fm_dec dtX8_copyFrom 79 rfl) ?_
  show pvEv Tx 0 qX8_copyFrom _ _ _ (cpS (cpS (cpA (cpA (cpA (cpA (cpA (cpA (cpA (cpA (cpA M 4 14 8) 5 15 8) 6 16 8) 7 17 8) 8 18 8) 9 19 8) 10 20 24) 11 21 24) 12 22 24) 9) 10) Q
  refine pv_aloadn (pc := 151) (n := 0) 0 rfl rfl (fm_dec dtX8_copyFrom 80 rfl) ?_
  refine pv_aloadn (pc := 152) (n := 1) 1 rfl rfl (fm_dec dtX8_copyFrom 81 rfl) ?_
  refine pv_getI (k := 13) (j := 11) (ci := 8) (pc := 153) pfl_X8_49 (by decide) rfl (by decide) (fm_dec dtX8_copyFrom 82 rfl) ?_
  refine pv_putI (k := 3) (j := 11) (ci := 8) (pc := 156) pfl_X8_49 (by decide) rfl (by decide) (fm_dec dtX8_copyFrom 83 rfl) ?_
  show pvEv Tx 0 qX8_copyFrom _ _ _ (cpS (cpS (cpS (cpA (cpA (cpA (cpA (cpA (cpA (cpA (cpA (cpA M 4 14 8) 5 15 8) 6 16 8) 7 17 8) 8 18 8) 9 19 8) 10 20 24) 11 21 24) 12 22 24) 9) 10) 11) Q
  refine pv_aloadn (pc := 159) (n := 0) 0 rfl rfl (fm_dec dtX8_copyFrom 84 rfl) ?_
  refine pv_aloadn (pc := 160) (n := 1) 1 rfl rfl (fm_dec dtX8_copyFrom 85 rfl) ?_
  refine pv_getI (k := 13) (j := 12) (ci := 8) (pc := 161) pfl_X8_52 (by decide) rfl (by decide) (fm_dec dtX8_copyFrom 86 rfl) ?_
  refine pv_putI (k := 3) (j := 12) (ci := 8) (pc := 164) pfl_X8_52 (by decide) rfl (by decide) (fm_dec dtX8_copyFrom 87 rfl) ?_
  show pvEv Tx 0 qX8_copyFrom _ _ _ (cpS (cpS (cpS (cpS (cpA (cpA (cpA (cpA (cpA (cpA (cpA (cpA (cpA M 4 14 8) 5 15 8) 6 16 8) 7 17 8) 8 18 8) 9 19 8) 10 20 24) 11 21 24) 12 22 24) 9) 10) 11) 12) Q
  refine pv_aloadn (pc := 167) (n := 0) 0 rfl rfl (fm_dec dtX8_copyFrom 88 rfl) ?_
  refine pv_aloadn (pc := 168) (n := 1) 1 rfl rfl (fm_dec dtX8_copyFrom 89 rfl) ?_
  refine pv_getI (k := 13) (j := 13) (ci := 8) (pc := 169) pfl_X8_55 (by decide) rfl (by decide) (fm_dec dtX8_copyFrom 90 rfl) ?_
  refine pv_putI (k := 3) (j := 13) (ci := 8) (pc := 172) pfl_X8_55 (by decide) rfl (by decide) (fm_dec dtX8_copyFrom 91 rfl) ?_
  show pvEv Tx 0 qX8_copyFrom _ _ _ (cpS (cpS (cpS (cpS (cpS (cpA (cpA (cpA (cpA (cpA (cpA (cpA (cpA (cpA M 4 14 8) 5 15 8) 6 16 8) 7 17 8) 8 18 8) 9 19 8) 10 20 24) 11 21 24) 12 22 24) 9) 10) 11) 12) 13) Q
  refine pv_aloadn (pc := 175) (n := 0) 0 rfl rfl (fm_dec dtX8_copyFrom 92 rfl) ?_
  refine pv_aloadn (pc := 176) (n := 1) 1 rfl rfl (fm_dec dtX8_copyFrom 93 rfl) ?_
  refine pv_getI (k := 13) (j := 14) (ci := 8) (pc := 177) pfl_X8_58 (by decide) rfl (by decide) (fm_dec dtX8_copyFrom 94 rfl) ?_
  refine pv_putI (k := 3) (j := 14) (ci := 8) (pc := 180) pfl_X8_58 (by decide) rfl (by decide) (fm_dec dtX8_copyFrom 95 rfl) ?_
  show pvEv Tx 0 qX8_copyFrom _ _ _ (cpS (cpS (cpS (cpS (cpS (cpS (cpA (cpA (cpA (cpA (cpA (cpA (cpA (cpA (cpA M 4 14 8) 5 15 8) 6 16 8) 7 17 8) 8 18 8) 9 19 8) 10 20 24) 11 21 24) 12 22 24) 9) 10) 11) 12) 13) 14) Q
  exact pv_return (pc := 183) rfl (fm_dec dtX8_copyFrom 96 rfl) hq
theorem x_copy {M : fmM} {Q : fmR → fmM → Prop} {D : dD} (hI : scInv Tx invX M) (hW : xdw 13 M D) (hD : dOk D) (hq : ∀ M' : fmM, scInv Tx invX M' → xdw 3 M' D → scFr [(3, 9, 6), (4, 0, 8), (5, 0, 8), (6, 0, 8), (7, 0, 8), (8, 0, 8), (9, 0, 8), (10, 0, 24), (11, 0, 24), (12, 0, 24)] M M' → Q (.inl none) M') : pvGood Tx 0 qX8_copyFrom [.ref 3, .ref 13] M Q := ((c_xcopy (Q := fun r M' => r = .inl none ∧ M' = cpM M) ⟨rfl, rfl⟩).and (s_copy8 (Q := fun _ M' => scInv Tx invX M' ∧ scFr [(3, 9, 6), (4, 0, 8), (5, 0, 8), (6, 0, 8), (7, 0, 8), (8, 0, 8), (9, 0, 8), (10, 0, 24), (11, 0, 24), (12, 0, 24)] M M') hI (fun M' h1 h2 => ⟨h1, h2⟩))).imp (fun r M' h => by
  obtain ⟨⟨rfl, e⟩, h1, h2⟩ := h
  exact hq M' h1 (by rw [e]; exact cp_ok hW hD) h2)
/-- what stands behind a good drawer: the told, no image, no page, no law -/
def dwNew (M : fmM) (D : dD) : Prop := dOk D ∧ xdw 3 M D ∧ (M.1 0 13 = 0 ∧ M.1 46 2 = 0) ∧ (M.1 27 1 = 0 ∧ M.1 27 2 = 0) ∧ M.1 23 3 = 3 ∧ M.1 24 0 = -1 ∧ M.1 24 1 = -1 ∧ M.1 24 2 = -8
set_option maxRecDepth 20000 in
theorem c_lwclr {M : fmM} {Q : fmR → fmM → Prop}  (hq : ∀ M' : fmM, M'.1 23 3 = 3 ∧ M'.1 24 0 = -1 ∧ M'.1 24 1 = -1 ∧ M'.1 24 2 = -8 → Q (.inl none) M') : pvGood Tx 0 qX1_clear [.ref 23] M Q := by
  refine pvGood_of (Nat.le_of_ble_eq_true rfl) ?_
  show pvEv Tx 0 qX1_clear 0 [some (.ref 23)] [] M Q
  refine pv_aloadn (pc := 0) (n := 0) 0 rfl rfl (fm_dec dtX1_clear 0 rfl) ?_
  refine pv_getR (k := 23) (j := 0) (ci := 1) (pc := 1) 24 rfl (by decide) pfl_X1_9 (by decide) rfl (by decide) (fm_dec dtX1_clear 1 rfl) ?_
  refine pv_iconst (pc := 4) (v := 0) (by decide) (fm_dec dtX1_clear 2 rfl) ?_
  refine pv_iconst (pc := 5) (v := (-1)) (by decide) (fm_dec dtX1_clear 3 rfl) ?_
  refine pv_iast (k := 24) (n := 150) (pc := 6) (by decide) rfl rfl (fm_inl (by decide)) (fm_dec dtX1_clear 4 rfl) ?_
  refine pv_aloadn (pc := 7) (n := 0) 0 rfl rfl (fm_dec dtX1_clear 5 rfl) ?_
  refine pv_getR (k := 23) (j := 0) (ci := 1) (pc := 8) 24 rfl (by decide) pfl_X1_9 (by decide) rfl (by decide) (fm_dec dtX1_clear 6 rfl) ?_
  refine pv_iconst (pc := 11) (v := 1) (by decide) (fm_dec dtX1_clear 7 rfl) ?_
  refine pv_iconst (pc := 12) (v := (-1)) (by decide) (fm_dec dtX1_clear 8 rfl) ?_
  refine pv_iast (k := 24) (n := 150) (pc := 13) (by decide) rfl rfl (fm_inl (by decide)) (fm_dec dtX1_clear 9 rfl) ?_
  refine pv_aloadn (pc := 14) (n := 0) 0 rfl rfl (fm_dec dtX1_clear 10 rfl) ?_
  refine pv_getR (k := 23) (j := 0) (ci := 1) (pc := 15) 24 rfl (by decide) pfl_X1_9 (by decide) rfl (by decide) (fm_dec dtX1_clear 11 rfl) ?_
  refine pv_iconst (pc := 18) (v := 2) (by decide) (fm_dec dtX1_clear 12 rfl) ?_
  refine pv_bipush (pc := 19) (v := (-8)) (by decide) (fm_dec dtX1_clear 13 rfl) ?_
  refine pv_iast (k := 24) (n := 150) (pc := 21) (by decide) rfl rfl (fm_inl (by decide)) (fm_dec dtX1_clear 14 rfl) ?_
  refine pv_aloadn (pc := 22) (n := 0) 0 rfl rfl (fm_dec dtX1_clear 15 rfl) ?_
  refine pv_iconst (pc := 23) (v := 3) (by decide) (fm_dec dtX1_clear 16 rfl) ?_
  refine pv_putI (k := 23) (j := 3) (ci := 1) (pc := 24) pfl_X1_24 (by decide) rfl (by decide) (fm_dec dtX1_clear 17 rfl) ?_
  exact pv_return (pc := 27) rfl (fm_dec dtX1_clear 18 rfl) (hq _ ⟨rfl, rfl, rfl, rfl⟩)
set_option maxRecDepth 20000 in
theorem c_pgclr {M : fmM} {Q : fmR → fmM → Prop}  (hq : ∀ M' : fmM, M'.1 27 1 = 0 ∧ M'.1 27 2 = 0 → Q (.inl none) M') : pvGood Tx 0 qX2_clear [.ref 27] M Q := by
  refine pvGood_of (Nat.le_of_ble_eq_true rfl) ?_
  show pvEv Tx 0 qX2_clear 0 [some (.ref 27)] [] M Q
  refine pv_aloadn (pc := 0) (n := 0) 0 rfl rfl (fm_dec dtX2_clear 0 rfl) ?_
  refine pv_iconst (pc := 1) (v := 0) (by decide) (fm_dec dtX2_clear 1 rfl) ?_
  refine pv_putI (k := 27) (j := 0) (ci := 2) (pc := 2) pfl_X2_9 (by decide) rfl (by decide) (fm_dec dtX2_clear 2 rfl) ?_
  refine pv_aloadn (pc := 5) (n := 0) 0 rfl rfl (fm_dec dtX2_clear 3 rfl) ?_
  refine pv_iconst (pc := 6) (v := 0) (by decide) (fm_dec dtX2_clear 4 rfl) ?_
  refine pv_putI (k := 27) (j := 1) (ci := 2) (pc := 7) pfl_X2_15 (by decide) rfl (by decide) (fm_dec dtX2_clear 5 rfl) ?_
  refine pv_aloadn (pc := 10) (n := 0) 0 rfl rfl (fm_dec dtX2_clear 6 rfl) ?_
  refine pv_iconst (pc := 11) (v := 0) (by decide) (fm_dec dtX2_clear 7 rfl) ?_
  refine pv_putI (k := 27) (j := 2) (ci := 2) (pc := 12) pfl_X2_18 (by decide) rfl (by decide) (fm_dec dtX2_clear 8 rfl) ?_
  exact pv_return (pc := 15) rfl (fm_dec dtX2_clear 9 rfl) (hq _ ⟨rfl, rfl⟩)
theorem x_clr1 {M : fmM} {Q : fmR → fmM → Prop} (hI : scInv Tx invX M) (hq : ∀ M' : fmM, scInv Tx invX M' → scFr [(23, 3, 1), (24, 0, 3)] M M' → M'.1 23 3 = 3 ∧ M'.1 24 0 = -1 ∧ M'.1 24 1 = -1 ∧ M'.1 24 2 = -8 → Q (.inl none) M') : pvGood Tx 0 qX1_clear [.ref 23] M Q := ((c_lwclr (Q := fun r M' => r = .inl none ∧ M'.1 23 3 = 3 ∧ M'.1 24 0 = -1 ∧ M'.1 24 1 = -1 ∧ M'.1 24 2 = -8) (fun _ h => ⟨rfl, h⟩)).and (s_clear1 (Q := fun _ M' => scInv Tx invX M' ∧ scFr [(23, 3, 1), (24, 0, 3)] M M') hI (fun M' h1 h2 => ⟨h1, h2⟩))).imp (fun r M' h => by
  obtain ⟨⟨rfl, e⟩, h1, h2⟩ := h
  exact hq M' h1 h2 e)
theorem x_clr2 {M : fmM} {Q : fmR → fmM → Prop} (hI : scInv Tx invX M) (hq : ∀ M' : fmM, scInv Tx invX M' → scFr [(27, 0, 3)] M M' → M'.1 27 1 = 0 ∧ M'.1 27 2 = 0 → Q (.inl none) M') : pvGood Tx 0 qX2_clear [.ref 27] M Q := ((c_pgclr (Q := fun r M' => r = .inl none ∧ M'.1 27 1 = 0 ∧ M'.1 27 2 = 0) (fun _ h => ⟨rfl, h⟩)).and (s_clear2 (Q := fun _ M' => scInv Tx invX M' ∧ scFr [(27, 0, 3)] M M') hI (fun M' h1 h2 => ⟨h1, h2⟩))).imp (fun r M' h => by
  obtain ⟨⟨rfl, e⟩, h1, h2⟩ := h
  exact hq M' h1 h2 e)
set_option maxRecDepth 20000 in
theorem c_xdrawer {M : fmM} {Q : fmR → fmM → Prop} {T : Nat → tX} {nn : Int32} (hI : scInv Tx invX M) (hT : txF M T) (hrf : ¬ txP nn 600 (M.1 1 1).toInt → Q (.inr fmIAE) (fmI M 0 16 (M.1 0 16 + 1))) (hok : ∀ (n : Nat) (M' : fmM) (D : dD) (r : Int32), nn.toInt = (n : Int) → txP nn 600 (M.1 1 1).toInt → spDrawer (T n) n = .inr D → r.toInt = (D.1 : Int) → dwNew M' D → Q (.inl (some (.int r))) M') (hbad : ∀ (n k a : Nat) (M' : fmM) (r : Int32), nn.toInt = (n : Int) → txP nn 600 (M.1 1 1).toInt → spDrawer (T n) n = .inl (k, a) → r.toInt = (k : Int) - 10 → tbad (opM M nn) M' k a → Q (.inl (some (.int r))) M') : pvGood Tx 41 qX10_drawer [.ref 0, .int nn] M Q := by
  refine pvGood_of (Nat.le_of_ble_eq_true rfl) ?_
  show pvEv Tx 41 qX10_drawer 0 [some (.ref 0), some (.int nn)] [] M Q
  refine pv_aloadn (pc := 0) (n := 0) 0 rfl rfl (fm_dec dtX10_drawer 0 rfl) ?_
  refine pv_iloadn (pc := 1) (n := 1) 1 rfl rfl (fm_dec dtX10_drawer 1 rfl) ?_
  refine pv_sipush (pc := 2) (v := 600) (by decide) (fm_dec dtX10_drawer 2 rfl) ?_
  refine pv_invV2 (k := 0) (d' := 1) (pc := 5) pcv_X10_108 (by decide) rfl (Nat.le_of_ble_eq_true rfl) (by decide) (fm_dec dtX10_drawer 3 rfl) ?_
  refine c_openT (fun h5 => ?_) (fun h5 => ?_)
  · refine pv_then0 ?_
    have h56 : nn.toInt ≤ 600 := h5.2.1
    obtain ⟨n, hn⟩ : ∃ n : Nat, nn.toInt = (n : Int) := ⟨nn.toInt.toNat, by have := h5.1; omega⟩
    have hI5 := inv_open (n := nn) hI h5.1 (by omega)
    have hT9 := hT n (by have := h5.2.2; omega)
    have hS := op_S hn hT9.1 hT9.2
    have hf5 : (opM M nn).1 1 4 = 0 := rfl
    refine pv_aloadn (pc := 8) (n := 0) 0 rfl rfl (fm_dec dtX10_drawer 4 rfl) ?_
    refine pv_getR (k := 0) (j := 2) (ci := 10) (pc := 9) 13 rfl (by decide) pfl_X10_23 (by decide) rfl (by decide) (fm_dec dtX10_drawer 5 rfl) ?_
    refine pv_aloadn (pc := 12) (n := 0) 0 rfl rfl (fm_dec dtX10_drawer 6 rfl) ?_
    refine pv_getR (k := 0) (j := 0) (ci := 10) (pc := 13) 1 rfl (by decide) pfl_X10_12 (by decide) rfl (by decide) (fm_dec dtX10_drawer 7 rfl) ?_
    refine pv_invV1 (k := 13) (d' := 7) (pc := 16) pcv_X10_112 (by decide) rfl (Nat.le_of_ble_eq_true rfl) (by decide) (fm_dec dtX10_drawer 8 rfl) ?_
    refine c_xdread hS hf5 hI5 (fun M16 D16 e16 k16 => ?_) (fun Mb kb ab eb hB => ?_)  
    · refine pv_then1 ?_
      refine pv_if_ne (pc := 19) 33 (by decide) (fm_dec dtX10_drawer 9 rfl) (fun _ => ?_) (fun hc19 => by exfalso; revert hc19; decide)
      refine pv_aloadn (pc := 33) (n := 0) 0 rfl rfl (fm_dec dtX10_drawer 16 rfl) ?_
      refine pv_getR (k := 0) (j := 1) (ci := 10) (pc := 34) 3 rfl (by decide) pfl_X10_19 (by decide) rfl (by decide) (fm_dec dtX10_drawer 17 rfl) ?_
      refine pv_aloadn (pc := 37) (n := 0) 0 rfl rfl (fm_dec dtX10_drawer 18 rfl) ?_
      refine pv_getR (k := 0) (j := 2) (ci := 10) (pc := 38) 13 rfl (by decide) pfl_X10_23 (by decide) rfl (by decide) (fm_dec dtX10_drawer 19 rfl) ?_
      refine pv_invV1 (k := 3) (d' := 0) (pc := 41) pcv_X10_119 (by decide) rfl (Nat.le_of_ble_eq_true rfl) (by decide) (fm_dec dtX10_drawer 20 rfl) ?_
      refine x_copy k16.2.2.2.2 k16.1 k16.2.1 (fun M41 hI41 hW41 f41 => ?_)
      refine pv_then0 ?_
      refine pv_aloadn (pc := 44) (n := 0) 0 rfl rfl (fm_dec dtX10_drawer 21 rfl) ?_
      refine pv_getR (k := 0) (j := 3) (ci := 10) (pc := 45) 23 rfl (by decide) pfl_X10_29 (by decide) rfl (by decide) (fm_dec dtX10_drawer 22 rfl) ?_
      refine pv_invV0 (k := 23) (d' := 0) (pc := 48) pcv_X10_122 (by decide) rfl (Nat.le_of_ble_eq_true rfl) (by decide) (fm_dec dtX10_drawer 23 rfl) ?_
      refine x_clr1 hI41 (fun M48 hI48 f48 c48 => ?_)
      refine pv_then0 ?_
      refine pv_aloadn (pc := 51) (n := 0) 0 rfl rfl (fm_dec dtX10_drawer 24 rfl) ?_
      refine pv_getR (k := 0) (j := 4) (ci := 10) (pc := 52) 27 rfl (by decide) pfl_X10_36 (by decide) rfl (by decide) (fm_dec dtX10_drawer 25 rfl) ?_
      refine pv_invV0 (k := 27) (d' := 0) (pc := 55) pcv_X10_125 (by decide) rfl (Nat.le_of_ble_eq_true rfl) (by decide) (fm_dec dtX10_drawer 26 rfl) ?_
      refine x_clr2 hI48 (fun M55 hI55 f55 c55 => ?_)
      refine pv_then0 ?_
      refine pv_aloadn (pc := 58) (n := 0) 0 rfl rfl (fm_dec dtX10_drawer 27 rfl) ?_
      refine pv_getR (k := 0) (j := 9) (ci := 10) (pc := 59) 46 rfl (by decide) pfl_X10_75 (by decide) rfl (by decide) (fm_dec dtX10_drawer 28 rfl) ?_
      refine pv_getR (k := 46) (j := 0) (ci := 5) (pc := 62) 47 rfl (by decide) pfl_X10_90 (by decide) rfl (by decide) (fm_dec dtX10_drawer 29 rfl) ?_
      refine pv_aloadn (pc := 65) (n := 0) 0 rfl rfl (fm_dec dtX10_drawer 30 rfl) ?_
      refine pv_getR (k := 0) (j := 1) (ci := 10) (pc := 66) 3 rfl (by decide) pfl_X10_19 (by decide) rfl (by decide) (fm_dec dtX10_drawer 31 rfl) ?_
      refine pv_invV1 (k := 47) (d' := 0) (pc := 69) pcv_X10_94 (by decide) rfl (Nat.le_of_ble_eq_true rfl) (by decide) (fm_dec dtX10_drawer 32 rfl) ?_
      refine s_begin6 hI55 (fun M69 hI69 f69 => ?_)
      refine pv_then0 ?_
      refine pv_aloadn (pc := 72) (n := 0) 0 rfl rfl (fm_dec dtX10_drawer 33 rfl) ?_
      refine pv_getR (k := 0) (j := 9) (ci := 10) (pc := 73) 46 rfl (by decide) pfl_X10_75 (by decide) rfl (by decide) (fm_dec dtX10_drawer 34 rfl) ?_
      refine pv_iconst (pc := 76) (v := 0) (by decide) (fm_dec dtX10_drawer 35 rfl) ?_
      refine pv_putI (k := 46) (j := 2) (ci := 5) (pc := 77) pfl_X10_126 (by decide) rfl (by decide) (fm_dec dtX10_drawer 36 rfl) ?_
      refine pv_aloadn (pc := 80) (n := 0) 0 rfl rfl (fm_dec dtX10_drawer 37 rfl) ?_
      refine pv_iconst (pc := 81) (v := 0) (by decide) (fm_dec dtX10_drawer 38 rfl) ?_
      refine pv_putI (k := 0) (j := 13) (ci := 10) (pc := 82) pfl_X10_129 (by decide) rfl (by decide) (fm_dec dtX10_drawer 39 rfl) ?_
      refine pv_aloadn (pc := 85) (n := 0) 0 rfl rfl (fm_dec dtX10_drawer 40 rfl) ?_
      refine pv_iconst (pc := 86) (v := 0) (by decide) (fm_dec dtX10_drawer 41 rfl) ?_
      refine pv_putI (k := 0) (j := 14) (ci := 10) (pc := 87) pfl_X10_132 (by decide) rfl (by decide) (fm_dec dtX10_drawer 42 rfl) ?_
      refine pv_aloadn (pc := 90) (n := 0) 0 rfl rfl (fm_dec dtX10_drawer 43 rfl) ?_
      refine pv_getR (k := 0) (j := 7) (ci := 10) (pc := 91) 34 rfl (by decide) pfl_X10_61 (by decide) rfl (by decide) (fm_dec dtX10_drawer 44 rfl) ?_
      refine pv_invV0 (k := 34) (d' := 0) (pc := 94) pcv_X10_135 (by decide) rfl (Nat.le_of_ble_eq_true rfl) (by decide) (fm_dec dtX10_drawer 45 rfl) ?_
      refine s_forget (xInv.put (xInv.put (xInv.put hI69 (by decide)) (by decide)) (scq_t 0)) (fun M94 hI94 f94 => ?_)
      refine pv_then0 ?_
      refine pv_aloadn (pc := 97) (n := 0) 0 rfl rfl (fm_dec dtX10_drawer 46 rfl) ?_
      refine pv_getR (k := 0) (j := 1) (ci := 10) (pc := 98) 3 rfl (by decide) pfl_X10_19 (by decide) rfl (by decide) (fm_dec dtX10_drawer 47 rfl) ?_
      refine pv_getI (k := 3) (j := 9) (ci := 8) (pc := 101) pfl_X10_138 (by decide) rfl (by decide) (fm_dec dtX10_drawer 48 rfl) ?_
      exact pv_ireturn (pc := 104) rfl (fm_dec dtX10_drawer 49 rfl) (hok n _ D16 _ hn h5 e16 (by rw [(f94 3 9 rfl).1]; show (M69.1 3 9).toInt = _; rw [(f69 3 9 rfl).1, (f55 3 9 rfl).1, (f48 3 9 rfl).1]; exact hW41.1.1) ⟨k16.2.1, hW41.of (fun k j a b => by rw [kp_of (P := ([(3, 12)], [])) f94 (by decide) k j (kp_in12 a b), fmI_at, if_neg (by omega), fmI_at, if_neg (by omega), fmI_at, if_neg (by omega), kp_of (P := ([(3, 12)], [])) f69 (by decide) k j (kp_in12 a b), kp_of (P := ([(3, 12)], [])) f55 (by decide) k j (kp_in12 a b), kp_of (P := ([(3, 12)], [])) f48 (by decide) k j (kp_in12 a b)]), ⟨(f94 0 13 rfl).1.trans rfl, (f94 46 2 rfl).1.trans rfl⟩, ⟨(f94 27 1 rfl).1.trans ((f69 27 1 rfl).1.trans c55.1), (f94 27 2 rfl).1.trans ((f69 27 2 rfl).1.trans c55.2)⟩, (f94 23 3 rfl).1.trans ((f69 23 3 rfl).1.trans ((f55 23 3 rfl).1.trans c48.1)), (f94 24 0 rfl).1.trans ((f69 24 0 rfl).1.trans ((f55 24 0 rfl).1.trans c48.2.1)), (f94 24 1 rfl).1.trans ((f69 24 1 rfl).1.trans ((f55 24 1 rfl).1.trans c48.2.2.1)), (f94 24 2 rfl).1.trans ((f69 24 2 rfl).1.trans ((f55 24 2 rfl).1.trans c48.2.2.2))⟩)
    · refine pv_then1 ?_
      refine pv_if_ne (pc := 19) 33 (by decide) (fm_dec dtX10_drawer 9 rfl) (fun hc19 => by exfalso; revert hc19; decide) (fun _ => ?_)
      refine pv_aloadn (pc := 22) (n := 0) 0 rfl rfl (fm_dec dtX10_drawer 10 rfl) ?_
      refine pv_getR (k := 0) (j := 0) (ci := 10) (pc := 23) 1 rfl (by decide) pfl_X10_12 (by decide) rfl (by decide) (fm_dec dtX10_drawer 11 rfl) ?_
      refine pv_getI (k := 1) (j := 4) (ci := 7) (pc := 26) pfl_X10_116 (by decide) rfl (by decide) (fm_dec dtX10_drawer 12 rfl) ?_
      refine pv_bipush (pc := 29) (v := 10) (by decide) (fm_dec dtX10_drawer 13 rfl) ?_
      refine pv_isub (pc := 31) (fm_dec dtX10_drawer 14 rfl) ?_
      exact pv_ireturn (pc := 32) rfl (fm_dec dtX10_drawer 15 rfl) (hbad n kb ab Mb _ hn h5 eb (law_r hB.1 (by have h9 : (Mb.1 1 4).toInt ≤ 3 := (hB.2.2.2.2.1 1 4 (by decide)).2; have h8 := hB.1; omega)) hB)
  · refine pv_thenX ?_
    exact hrf h5
end
