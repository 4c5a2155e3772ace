-- THE REFERENCE READS, in short words
def rdFr (M M' : fmM) : Prop := (∀ k j, k ≠ 0 → M'.1 k j = M.1 k j) ∧ (∀ j, j ≠ 4 → j ≠ 5 → j ≠ 6 → M'.1 0 j = M.1 0 j) ∧ M'.2 = M.2
def rdOk (M M' : fmM) (tx : tX) (n q : Nat) : Prop := rS M' tx n q ∧ M'.1 0 5 = 0 ∧ rdFr M M'
def rdBad (M M' : fmM) (tx : tX) (n k a : Nat) : Prop := (∃ q, rS M' tx n q) ∧ (M'.1 0 5).toInt = k ∧ (M'.1 0 6).toInt = a ∧ k ≠ 0 ∧ rdFr M M'
theorem rdFr.refl (M : fmM) : rdFr M M := ⟨fun _ _ _ => rfl, fun _ _ _ _ => rfl, rfl⟩
theorem rdFr.trans {M M1 M2 : fmM} (h : rdFr M M1) (h' : rdFr M1 M2) : rdFr M M2 := ⟨fun k j a => (h'.1 k j a).trans (h.1 k j a), fun j a b c => (h'.2.1 j a b c).trans (h.2.1 j a b c), h'.2.2.trans h.2.2⟩
theorem rdFr.set {j : Nat} {M M1 : fmM} {x : Int32} (h : rdFr M M1) (hj : j = 4 ∨ j = 5 ∨ j = 6) : rdFr M (fmI M1 0 j x) := by
  refine ⟨fun k i h1 => ?_, fun i a b c => ?_, h.2.2⟩
  · rw [fmI_k M1 x h1]
    exact h.1 k i h1
  · rw [fmI_j M1 x (by omega)]
    exact h.2.1 i a b c
theorem rdBad.nz {M M' : fmM} {tx : tX} {n k a : Nat} (h : rdBad M M' tx n k a) : ¬ M'.1 0 5 = 0 := by
  intro e
  have h1 := h.2.1
  rw [e] at h1
  have e0 : (0 : Int32).toInt = 0 := by decide
  have := h.2.2.2.1
  omega
theorem rdOk.at {M : fmM} {tx : tX} {n p q : Nat} {x : Int32} (hS : rS M tx n p) (hf : M.1 0 5 = 0) (hx : x.toInt = q) (hq : q ≤ n) : rdOk M (fmI M 0 4 x) tx n q := ⟨hS.set hx hq, hf, (rdFr.refl M).set (Or.inl rfl)⟩
theorem rdBad.at {M : fmM} {tx : tX} {n p q k a : Nat} {x kk aa : Int32} (hS : rS M tx n p) (hx : x.toInt = q) (hq : q ≤ n) (hk : kk.toInt = k) (ha : aa.toInt = a) (h0 : k ≠ 0) : rdBad M (fmI (fmI (fmI M 0 4 x) 0 5 kk) 0 6 aa) tx n k a := ⟨⟨q, (hS.set hx hq).of rfl rfl rfl⟩, hk, ha, h0, (((rdFr.refl M).set (Or.inl rfl)).set (Or.inr (Or.inl rfl))).set (Or.inr (Or.inr rfl))⟩
theorem rdBad.at0 {M : fmM} {tx : tX} {n p k a : Nat} {kk aa : Int32} (hS : rS M tx n p) (hk : kk.toInt = k) (ha : aa.toInt = a) (h0 : k ≠ 0) : rdBad M (fmI (fmI M 0 5 kk) 0 6 aa) tx n k a := ⟨⟨p, hS.of rfl rfl rfl⟩, hk, ha, h0, ((rdFr.refl M).set (Or.inr (Or.inl rfl))).set (Or.inr (Or.inr rfl))⟩
theorem rdOk.ok {M M1 M2 : fmM} {tx : tX} {n q q2 : Nat} (h : rdOk M M1 tx n q) (h' : rdOk M1 M2 tx n q2) : rdOk M M2 tx n q2 := ⟨h'.1, h'.2.1, h.2.2.trans h'.2.2⟩
theorem rdOk.bad {M M1 M2 : fmM} {tx : tX} {n q k a : Nat} (h : rdOk M M1 tx n q) (h' : rdBad M1 M2 tx n k a) : rdBad M M2 tx n k a := ⟨h'.1, h'.2.1, h'.2.2.1, h'.2.2.2.1, h.2.2.trans h'.2.2.2.2⟩
theorem rdBad.pre {M0 M M1 : fmM} {tx : tX} {n k a : Nat} (h : rdBad M M1 tx n k a) (hf : rdFr M0 M) : rdBad M0 M1 tx n k a := ⟨h.1, h.2.1, h.2.2.1, h.2.2.2.1, hf.trans h.2.2.2.2⟩
theorem r_sign {M : fmM} {Q : fmR → fmM → Prop} {tx : tX} {n p : Nat} {c : Int32} (ci : Int) (hci : c.toInt = ci ∧ 0 ≤ ci) (hS : rS M tx n p) (hf : M.1 0 5 = 0) (hok : ∀ (M' : fmM) (q : Nat), spSign tx ci p = .inr ((), q) → rdOk M M' tx n q → Q (.inl none) M') (hbad : ∀ (M' : fmM) (k a : Nat), spSign tx ci p = .inl (k, a) → rdBad M M' tx n k a → Q (.inl none) M') : pvGood Tm 2 qX11_sign [.ref 0, .int c] M Q := by
  obtain ⟨e, h0⟩ := hci
  subst e
  exact c_sign hS hf (fun q x e hx hq => hok _ q e (rdOk.at hS hf hx hq)) (fun k a q x kk aa e hk ha hx hq => hbad _ k a e (rdBad.at hS hx hq hk ha (by have := (spSign_bad hS.2.2.2.1 hS.2.2.1 e).2.2; omega))) h0
theorem r_num {M : fmM} {Q : fmR → fmM → Prop} {tx : tX} {n p : Nat} {lo hi : Int32} (li hj : Int) (hl : lo.toInt = li ∧ hi.toInt = hj ∧ hj < 100000) (hS : rS M tx n p) (hf : M.1 0 5 = 0) (hok : ∀ (M' : fmM) (v q : Nat) (w : Int32), spNum tx li hj p = .inr (v, q) → w.toInt = v → rdOk M M' tx n q → Q (.inl (some (.int w))) M') (hbad : ∀ (M' : fmM) (k a : Nat), spNum tx li hj p = .inl (k, a) → rdBad M M' tx n k a → Q (.inl (some (.int 0))) M') : pvGood Tm 2 qX11_number [.ref 0, .int lo, .int hi] M Q := by
  obtain ⟨e1, e2, h0⟩ := hl
  subst e1
  subst e2
  exact c_number hS hf h0 (fun v q x w e hw hx => hok _ v q w e hw (rdOk.at hS hf hx (spNum_ok hS.2.2.2.1 hS.2.2.1 e).2.1)) (fun k a q x kk aa e hk ha hx hq => hbad _ k a e (rdBad.at hS hx hq hk ha (by have := (spNum_bad hS.2.2.2.1 hS.2.2.1 e).2.2; omega)))
theorem r_blanks {M : fmM} {Q : fmR → fmM → Prop} {tx : tX} {n p : Nat} (hS : rS M tx n p) (hf : M.1 0 5 = 0) (hok : ∀ M' : fmM, rdOk M M' tx n (sk tx p) → Q (.inl none) M') : pvGood Tm 1 qX11_blanks [.ref 0] M Q := c_blanks hS (fun x hx => hok _ (rdOk.at hS hf hx (hS.bl hx).2.2.1))
theorem r_blanks1 {M M0 : fmM} {Q : fmR → fmM → Prop} {tx : tX} {n k a : Nat} (hB : rdBad M0 M tx n k a) (hbad : ∀ M' : fmM, rdBad M0 M' tx n k a → Q (.inl none) M') : pvGood Tm 1 qX11_blanks [.ref 0] M Q := by
  obtain ⟨⟨q, hS⟩, h2, h3, h4, h5⟩ := hB
  exact c_blanks hS (fun x hx => hbad _ ⟨⟨_, hS.bl hx⟩, h2, h3, h4, h5.set (Or.inl rfl)⟩)
theorem fmI_at (M : fmM) (k j k' j' : Nat) (v : Int32) : (fmI M k j v).1 k' j' = if k' = k ∧ j' = j then v else M.1 k' j' := by
  by_cases h : k' = k
  · subst h
    by_cases h2 : j' = j
    · subst h2
      rw [fmI_s, if_pos ⟨rfl, rfl⟩]
    · rw [fmI_j M v h2, if_neg (fun h => h2 h.2)]
  · rw [fmI_k M v h, if_neg (fun h9 => h h9.1)]
/-- rows k to c of one table are laid into another -/
def lyOk (bs bt w k c : Nat) (M M' : fmM) : Prop := (∀ i j, k ≤ i → i < c → j < w → M'.1 (bt + i) j = M.1 (bs + i) j) ∧ (∀ q j, ¬ (bt + k ≤ q ∧ q < bt + c) → M'.1 q j = M.1 q j) ∧ M'.2 = M.2
theorem lyOk.nil {bs bt w c : Nat} {M : fmM} : lyOk bs bt w c c M M := ⟨fun i j h1 h2 => by omega, fun _ _ _ => rfl, rfl⟩
theorem lyOk.step {bs bt w k c N : Nat} {M M1 M' : fmM} (h : lyOk bs bt w (k + 1) c M1 M') (hk : k < c) (hc : c ≤ N) (hd : bs + N ≤ bt ∨ bt + N ≤ bs) (h1 : ∀ j, j < w → M1.1 (bt + k) j = M.1 (bs + k) j) (h2 : ∀ q j, q ≠ bt + k → M1.1 q j = M.1 q j) (h3 : M1.2 = M.2) : lyOk bs bt w k c M M' := by
  refine ⟨fun i j a b d => ?_, fun q j hq => ?_, h.2.2.trans h3⟩
  · by_cases e : i = k
    · subst e
      rw [h.2.1 _ _ (by omega)]
      exact h1 j d
    · rw [h.1 i j (by omega) b d]
      exact h2 _ _ (by omega)
  · rw [h.2.1 q j (by omega)]
    exact h2 _ _ (by omega)
/-- the rows of a table -/
def rwOk (o b w N : Nat) : Prop := o < Tm.1 ∧ Tm.2.1 o = 5 ∧ Tm.2.2.1 o = N ∧ ∀ i, i < N → Tm.2.2.2 o i = b + i ∧ b + i < 1000 ∧ b + i < Tm.1 ∧ Tm.2.1 (b + i) = 0 ∧ Tm.2.2.1 (b + i) = w
theorem rw_readLaw : rwOk 21 251 2 160 := ⟨by decide, rfl, rfl, by decide +kernel⟩
theorem rw_law : rwOk 20 91 2 160 := ⟨by decide, rfl, rfl, by decide +kernel⟩
theorem rw_readLife : rwOk 16 27 6 8 := ⟨by decide, rfl, rfl, by decide +kernel⟩
theorem rw_life : rwOk 17 35 6 8 := ⟨by decide, rfl, rfl, by decide +kernel⟩
theorem rw_readFact : rwOk 18 43 3 24 := ⟨by decide, rfl, rfl, by decide +kernel⟩
theorem rw_fact : rwOk 19 67 3 24 := ⟨by decide, rfl, rfl, by decide +kernel⟩
theorem rw_page : rwOk 22 411 2 6 := ⟨by decide, rfl, rfl, by decide +kernel⟩
theorem rw_readPage : rwOk 23 417 2 6 := ⟨by decide, rfl, rfl, by decide +kernel⟩
theorem rw_step : rwOk 24 423 3 80 := ⟨by decide, rfl, rfl, by decide +kernel⟩
theorem rw_before : rwOk 25 503 14 16 := ⟨by decide, rfl, rfl, by decide +kernel⟩
theorem i32_cl {x : Int32} {k : Nat} (h : x.toInt = k) : x.toNatClampNeg = k := by
  show x.toInt.toNat = k
  omega
theorem rwOk.at {o b w N k : Nat} {x : Int32} (h : rwOk o b w N) (hx : x.toInt = k) (hk : k < N) : Tm.2.2.2 o x.toNatClampNeg = b + k := by
  rw [i32_cl hx]
  exact (h.2.2.2 k hk).1
theorem rwOk.inb {o b w N k : Nat} {x : Int32} (h : rwOk o b w N) (hx : x.toInt = k) (hk : k < N) : vp_in x N := vp_in_iff.mpr ⟨by omega, by omega⟩
set_option maxRecDepth 20000 in
theorem ly_law {Q : fmR → fmM → Prop} {many : Int32} {c : Nat} (hmany : many.toInt = c) (hN : c ≤ 160) : ∀ (m : Nat) (M : fmM) (k : Nat) (kk : Int32) (v4 : Option Value), kk.toInt = k → k + m = c → (∀ M' : fmM, lyOk 251 91 2 k c M M' → Q (.inl none) M') → pvEv Tm 0 qX11_lays 2 [some (.ref 21), some (.ref 20), some (.int many), some (.int kk), v4] [] M Q := by
  intro m
  induction m using Nat.strongRecOn with
  | _ m ih =>
    intro M k kk v4 hk hm hq
    refine pv_iloadn (pc := 2) (n := 3) 3 rfl rfl (fm_dec dtX11_lays 2 rfl) ?_
    refine pv_iloadn (pc := 3) (n := 2) 2 rfl rfl (fm_dec dtX11_lays 3 rfl) ?_
    refine pv_icmp_ge (pc := 4) 43 (by decide) (fm_dec dtX11_lays 4 rfl) (fun hc4 => ?_) (fun hc4 => ?_)
    · exact pv_return (pc := 43) rfl (fm_dec dtX11_lays 27 rfl) (hq M (by have : k = c := (by rw [sc_le] at hc4; omega); subst this; exact lyOk.nil))
    · have hkc : k < c := (by rw [sc_le] at hc4; omega)
      refine pv_iconst (pc := 7) (v := 0) (by decide) (fm_dec dtX11_lays 5 rfl) ?_
      refine pv_istore (pc := 8) (i := 4) (by decide) rfl (fm_dec dtX11_lays 6 rfl) ?_
      dsimp only [List.set_cons_zero, List.set_cons_succ]
      refine pv_iload (pc := 10) (i := 4) rfl (fm_dec dtX11_lays 7 rfl) ?_
      refine pv_aloadn (pc := 12) (n := 1) 1 rfl rfl (fm_dec dtX11_lays 8 rfl) ?_
      refine pv_iloadn (pc := 13) (n := 3) 3 rfl rfl (fm_dec dtX11_lays 9 rfl) ?_
      refine pv_aald (k := 20) (n := 160) (r := (91 + k)) (pc := 14) (by decide) (Or.inr (Or.inr rfl)) rfl (rw_law.inb hk (by omega)) (rw_law.at hk (by omega)) (rw_law.2.2.2 k (by omega)).2.1 (fm_dec dtX11_lays 10 rfl) ?_
      refine pv_alenI (k := (91 + k)) (n := 2) (v := 2) (pc := 15) (rw_law.2.2.2 k (by omega)).2.2.1 (rw_law.2.2.2 k (by omega)).2.2.2.1 (rw_law.2.2.2 k (by omega)).2.2.2.2 (by decide) (fm_dec dtX11_lays 11 rfl) ?_
      refine pv_icmp_ge (pc := 16) 37 (by decide) (fm_dec dtX11_lays 12 rfl) (fun hc16 => by exfalso; revert hc16; decide) (fun _ => ?_)
      refine pv_aloadn (pc := 19) (n := 1) 1 rfl rfl (fm_dec dtX11_lays 13 rfl) ?_
      refine pv_iloadn (pc := 20) (n := 3) 3 rfl rfl (fm_dec dtX11_lays 14 rfl) ?_
      refine pv_aald (k := 20) (n := 160) (r := (91 + k)) (pc := 21) (by decide) (Or.inr (Or.inr rfl)) rfl (rw_law.inb hk (by omega)) (rw_law.at hk (by omega)) (rw_law.2.2.2 k (by omega)).2.1 (fm_dec dtX11_lays 15 rfl) ?_
      refine pv_iload (pc := 22) (i := 4) rfl (fm_dec dtX11_lays 16 rfl) ?_
      refine pv_aloadn (pc := 24) (n := 0) 0 rfl rfl (fm_dec dtX11_lays 17 rfl) ?_
      refine pv_iloadn (pc := 25) (n := 3) 3 rfl rfl (fm_dec dtX11_lays 18 rfl) ?_
      refine pv_aald (k := 21) (n := 160) (r := (251 + k)) (pc := 26) (by decide) (Or.inr (Or.inr rfl)) rfl (rw_readLaw.inb hk (by omega)) (rw_readLaw.at hk (by omega)) (rw_readLaw.2.2.2 k (by omega)).2.1 (fm_dec dtX11_lays 19 rfl) ?_
      refine pv_iload (pc := 27) (i := 4) rfl (fm_dec dtX11_lays 20 rfl) ?_
      refine pv_iald (k := (251 + k)) (n := 2) (pc := 29) (rw_readLaw.2.2.2 k (by omega)).2.2.1 (rw_readLaw.2.2.2 k (by omega)).2.2.2.1 (rw_readLaw.2.2.2 k (by omega)).2.2.2.2 (fm_inl (by decide)) (fm_dec dtX11_lays 21 rfl) ?_
      refine pv_iast (k := (91 + k)) (n := 2) (pc := 30) (rw_law.2.2.2 k (by omega)).2.2.1 (rw_law.2.2.2 k (by omega)).2.2.2.1 (rw_law.2.2.2 k (by omega)).2.2.2.2 (fm_inl (by decide)) (fm_dec dtX11_lays 22 rfl) ?_
      refine pv_iincc (pc := 31) 4 1 (by decide) rfl (by decide) rfl (fm_dec dtX11_lays 23 rfl) ?_
      dsimp only [List.set_cons_zero, List.set_cons_succ]
      rw [show (0 : Int32) + 1 = 1 by decide]
      refine pv_goto (pc := 34) 10 (by decide) (fm_dec dtX11_lays 24 rfl) ?_
      refine pv_iload (pc := 10) (i := 4) rfl (fm_dec dtX11_lays 7 rfl) ?_
      refine pv_aloadn (pc := 12) (n := 1) 1 rfl rfl (fm_dec dtX11_lays 8 rfl) ?_
      refine pv_iloadn (pc := 13) (n := 3) 3 rfl rfl (fm_dec dtX11_lays 9 rfl) ?_
      refine pv_aald (k := 20) (n := 160) (r := (91 + k)) (pc := 14) (by decide) (Or.inr (Or.inr rfl)) rfl (rw_law.inb hk (by omega)) (rw_law.at hk (by omega)) (rw_law.2.2.2 k (by omega)).2.1 (fm_dec dtX11_lays 10 rfl) ?_
      refine pv_alenI (k := (91 + k)) (n := 2) (v := 2) (pc := 15) (rw_law.2.2.2 k (by omega)).2.2.1 (rw_law.2.2.2 k (by omega)).2.2.2.1 (rw_law.2.2.2 k (by omega)).2.2.2.2 (by decide) (fm_dec dtX11_lays 11 rfl) ?_
      refine pv_icmp_ge (pc := 16) 37 (by decide) (fm_dec dtX11_lays 12 rfl) (fun hc16 => by exfalso; revert hc16; decide) (fun _ => ?_)
      refine pv_aloadn (pc := 19) (n := 1) 1 rfl rfl (fm_dec dtX11_lays 13 rfl) ?_
      refine pv_iloadn (pc := 20) (n := 3) 3 rfl rfl (fm_dec dtX11_lays 14 rfl) ?_
      refine pv_aald (k := 20) (n := 160) (r := (91 + k)) (pc := 21) (by decide) (Or.inr (Or.inr rfl)) rfl (rw_law.inb hk (by omega)) (rw_law.at hk (by omega)) (rw_law.2.2.2 k (by omega)).2.1 (fm_dec dtX11_lays 15 rfl) ?_
      refine pv_iload (pc := 22) (i := 4) rfl (fm_dec dtX11_lays 16 rfl) ?_
      refine pv_aloadn (pc := 24) (n := 0) 0 rfl rfl (fm_dec dtX11_lays 17 rfl) ?_
      refine pv_iloadn (pc := 25) (n := 3) 3 rfl rfl (fm_dec dtX11_lays 18 rfl) ?_
      refine pv_aald (k := 21) (n := 160) (r := (251 + k)) (pc := 26) (by decide) (Or.inr (Or.inr rfl)) rfl (rw_readLaw.inb hk (by omega)) (rw_readLaw.at hk (by omega)) (rw_readLaw.2.2.2 k (by omega)).2.1 (fm_dec dtX11_lays 19 rfl) ?_
      refine pv_iload (pc := 27) (i := 4) rfl (fm_dec dtX11_lays 20 rfl) ?_
      refine pv_iald (k := (251 + k)) (n := 2) (pc := 29) (rw_readLaw.2.2.2 k (by omega)).2.2.1 (rw_readLaw.2.2.2 k (by omega)).2.2.2.1 (rw_readLaw.2.2.2 k (by omega)).2.2.2.2 (fm_inl (by decide)) (fm_dec dtX11_lays 21 rfl) ?_
      refine pv_iast (k := (91 + k)) (n := 2) (pc := 30) (rw_law.2.2.2 k (by omega)).2.2.1 (rw_law.2.2.2 k (by omega)).2.2.2.1 (rw_law.2.2.2 k (by omega)).2.2.2.2 (fm_inl (by decide)) (fm_dec dtX11_lays 22 rfl) ?_
      refine pv_iincc (pc := 31) 4 1 (by decide) rfl (by decide) rfl (fm_dec dtX11_lays 23 rfl) ?_
      dsimp only [List.set_cons_zero, List.set_cons_succ]
      rw [show (1 : Int32) + 1 = 2 by decide]
      refine pv_goto (pc := 34) 10 (by decide) (fm_dec dtX11_lays 24 rfl) ?_
      refine pv_iload (pc := 10) (i := 4) rfl (fm_dec dtX11_lays 7 rfl) ?_
      refine pv_aloadn (pc := 12) (n := 1) 1 rfl rfl (fm_dec dtX11_lays 8 rfl) ?_
      refine pv_iloadn (pc := 13) (n := 3) 3 rfl rfl (fm_dec dtX11_lays 9 rfl) ?_
      refine pv_aald (k := 20) (n := 160) (r := (91 + k)) (pc := 14) (by decide) (Or.inr (Or.inr rfl)) rfl (rw_law.inb hk (by omega)) (rw_law.at hk (by omega)) (rw_law.2.2.2 k (by omega)).2.1 (fm_dec dtX11_lays 10 rfl) ?_
      refine pv_alenI (k := (91 + k)) (n := 2) (v := 2) (pc := 15) (rw_law.2.2.2 k (by omega)).2.2.1 (rw_law.2.2.2 k (by omega)).2.2.2.1 (rw_law.2.2.2 k (by omega)).2.2.2.2 (by decide) (fm_dec dtX11_lays 11 rfl) ?_
      refine pv_icmp_ge (pc := 16) 37 (by decide) (fm_dec dtX11_lays 12 rfl) (fun _ => ?_) (fun hc16 => by exfalso; revert hc16; decide)
      refine pv_iincc (pc := 37) 3 1 (by decide) rfl (by decide) rfl (fm_dec dtX11_lays 25 rfl) ?_
      dsimp only [List.set_cons_zero, List.set_cons_succ]
      refine pv_goto (pc := 40) 2 (by decide) (fm_dec dtX11_lays 26 rfl) ?_
      refine ih (m - 1) (by omega) _ (k + 1) _ _ (i32_p1 hk (by omega)) (by omega) (fun M' h' => hq M' (h'.step (N := 160) (by omega) hN (by omega) (fun j hj => ?_) (fun q j hq9 => ?_) rfl))
      · rcases (show j = 0 ∨ j = 1 by omega) with rfl | rfl <;> simp [fmI_at, show ¬ (251 + k = 91 + k) by omega]
      · simp [fmI_at, hq9]
theorem c_lays_law {M : fmM} {Q : fmR → fmM → Prop} {many : Int32} {c : Nat} (hmany : many.toInt = c) (hN : c ≤ 160) (hq : ∀ M' : fmM, lyOk 251 91 2 0 c M M' → Q (.inl none) M') : pvGood Tm 0 qX11_lays [.ref 21, .ref 20, .int many] M Q := by
  refine pvGood_of (Nat.le_of_ble_eq_true rfl) ?_
  show pvEv Tm 0 qX11_lays 0 [some (.ref 21), some (.ref 20), some (.int many), none, none] [] M Q
  refine pv_iconst (pc := 0) (v := 0) (by decide) (fm_dec dtX11_lays 0 rfl) ?_
  refine pv_istoren (pc := 1) (n := 3) 3 rfl (by decide) rfl (fm_dec dtX11_lays 1 rfl) ?_
  exact ly_law hmany hN c M 0 0 none (by decide) (by omega) hq
set_option maxRecDepth 20000 in
theorem ly_life {Q : fmR → fmM → Prop} {many : Int32} {c : Nat} (hmany : many.toInt = c) (hN : c ≤ 8) : ∀ (m : Nat) (M : fmM) (k : Nat) (kk : Int32) (v4 : Option Value), kk.toInt = k → k + m = c → (∀ M' : fmM, lyOk 27 35 6 k c M M' → Q (.inl none) M') → pvEv Tm 0 qX11_lays 2 [some (.ref 16), some (.ref 17), some (.int many), some (.int kk), v4] [] M Q := by
  intro m
  induction m using Nat.strongRecOn with
  | _ m ih =>
    intro M k kk v4 hk hm hq
    refine pv_iloadn (pc := 2) (n := 3) 3 rfl rfl (fm_dec dtX11_lays 2 rfl) ?_
    refine pv_iloadn (pc := 3) (n := 2) 2 rfl rfl (fm_dec dtX11_lays 3 rfl) ?_
    refine pv_icmp_ge (pc := 4) 43 (by decide) (fm_dec dtX11_lays 4 rfl) (fun hc4 => ?_) (fun hc4 => ?_)
    · exact pv_return (pc := 43) rfl (fm_dec dtX11_lays 27 rfl) (hq M (by have : k = c := (by rw [sc_le] at hc4; omega); subst this; exact lyOk.nil))
    · have hkc : k < c := (by rw [sc_le] at hc4; omega)
      refine pv_iconst (pc := 7) (v := 0) (by decide) (fm_dec dtX11_lays 5 rfl) ?_
      refine pv_istore (pc := 8) (i := 4) (by decide) rfl (fm_dec dtX11_lays 6 rfl) ?_
      dsimp only [List.set_cons_zero, List.set_cons_succ]
      refine pv_iload (pc := 10) (i := 4) rfl (fm_dec dtX11_lays 7 rfl) ?_
      refine pv_aloadn (pc := 12) (n := 1) 1 rfl rfl (fm_dec dtX11_lays 8 rfl) ?_
      refine pv_iloadn (pc := 13) (n := 3) 3 rfl rfl (fm_dec dtX11_lays 9 rfl) ?_
      refine pv_aald (k := 17) (n := 8) (r := (35 + k)) (pc := 14) (by decide) (Or.inr (Or.inr rfl)) rfl (rw_life.inb hk (by omega)) (rw_life.at hk (by omega)) (rw_life.2.2.2 k (by omega)).2.1 (fm_dec dtX11_lays 10 rfl) ?_
      refine pv_alenI (k := (35 + k)) (n := 6) (v := 6) (pc := 15) (rw_life.2.2.2 k (by omega)).2.2.1 (rw_life.2.2.2 k (by omega)).2.2.2.1 (rw_life.2.2.2 k (by omega)).2.2.2.2 (by decide) (fm_dec dtX11_lays 11 rfl) ?_
      refine pv_icmp_ge (pc := 16) 37 (by decide) (fm_dec dtX11_lays 12 rfl) (fun hc16 => by exfalso; revert hc16; decide) (fun _ => ?_)
      refine pv_aloadn (pc := 19) (n := 1) 1 rfl rfl (fm_dec dtX11_lays 13 rfl) ?_
      refine pv_iloadn (pc := 20) (n := 3) 3 rfl rfl (fm_dec dtX11_lays 14 rfl) ?_
      refine pv_aald (k := 17) (n := 8) (r := (35 + k)) (pc := 21) (by decide) (Or.inr (Or.inr rfl)) rfl (rw_life.inb hk (by omega)) (rw_life.at hk (by omega)) (rw_life.2.2.2 k (by omega)).2.1 (fm_dec dtX11_lays 15 rfl) ?_
      refine pv_iload (pc := 22) (i := 4) rfl (fm_dec dtX11_lays 16 rfl) ?_
      refine pv_aloadn (pc := 24) (n := 0) 0 rfl rfl (fm_dec dtX11_lays 17 rfl) ?_
      refine pv_iloadn (pc := 25) (n := 3) 3 rfl rfl (fm_dec dtX11_lays 18 rfl) ?_
      refine pv_aald (k := 16) (n := 8) (r := (27 + k)) (pc := 26) (by decide) (Or.inr (Or.inr rfl)) rfl (rw_readLife.inb hk (by omega)) (rw_readLife.at hk (by omega)) (rw_readLife.2.2.2 k (by omega)).2.1 (fm_dec dtX11_lays 19 rfl) ?_
      refine pv_iload (pc := 27) (i := 4) rfl (fm_dec dtX11_lays 20 rfl) ?_
      refine pv_iald (k := (27 + k)) (n := 6) (pc := 29) (rw_readLife.2.2.2 k (by omega)).2.2.1 (rw_readLife.2.2.2 k (by omega)).2.2.2.1 (rw_readLife.2.2.2 k (by omega)).2.2.2.2 (fm_inl (by decide)) (fm_dec dtX11_lays 21 rfl) ?_
      refine pv_iast (k := (35 + k)) (n := 6) (pc := 30) (rw_life.2.2.2 k (by omega)).2.2.1 (rw_life.2.2.2 k (by omega)).2.2.2.1 (rw_life.2.2.2 k (by omega)).2.2.2.2 (fm_inl (by decide)) (fm_dec dtX11_lays 22 rfl) ?_
      refine pv_iincc (pc := 31) 4 1 (by decide) rfl (by decide) rfl (fm_dec dtX11_lays 23 rfl) ?_
      dsimp only [List.set_cons_zero, List.set_cons_succ]
      rw [show (0 : Int32) + 1 = 1 by decide]
      refine pv_goto (pc := 34) 10 (by decide) (fm_dec dtX11_lays 24 rfl) ?_
      refine pv_iload (pc := 10) (i := 4) rfl (fm_dec dtX11_lays 7 rfl) ?_
      refine pv_aloadn (pc := 12) (n := 1) 1 rfl rfl (fm_dec dtX11_lays 8 rfl) ?_
      refine pv_iloadn (pc := 13) (n := 3) 3 rfl rfl (fm_dec dtX11_lays 9 rfl) ?_
      refine pv_aald (k := 17) (n := 8) (r := (35 + k)) (pc := 14) (by decide) (Or.inr (Or.inr rfl)) rfl (rw_life.inb hk (by omega)) (rw_life.at hk (by omega)) (rw_life.2.2.2 k (by omega)).2.1 (fm_dec dtX11_lays 10 rfl) ?_
      refine pv_alenI (k := (35 + k)) (n := 6) (v := 6) (pc := 15) (rw_life.2.2.2 k (by omega)).2.2.1 (rw_life.2.2.2 k (by omega)).2.2.2.1 (rw_life.2.2.2 k (by omega)).2.2.2.2 (by decide) (fm_dec dtX11_lays 11 rfl) ?_
      refine pv_icmp_ge (pc := 16) 37 (by decide) (fm_dec dtX11_lays 12 rfl) (fun hc16 => by exfalso; revert hc16; decide) (fun _ => ?_)
      refine pv_aloadn (pc := 19) (n := 1) 1 rfl rfl (fm_dec dtX11_lays 13 rfl) ?_
      refine pv_iloadn (pc := 20) (n := 3) 3 rfl rfl (fm_dec dtX11_lays 14 rfl) ?_
      refine pv_aald (k := 17) (n := 8) (r := (35 + k)) (pc := 21) (by decide) (Or.inr (Or.inr rfl)) rfl (rw_life.inb hk (by omega)) (rw_life.at hk (by omega)) (rw_life.2.2.2 k (by omega)).2.1 (fm_dec dtX11_lays 15 rfl) ?_
      refine pv_iload (pc := 22) (i := 4) rfl (fm_dec dtX11_lays 16 rfl) ?_
      refine pv_aloadn (pc := 24) (n := 0) 0 rfl rfl (fm_dec dtX11_lays 17 rfl) ?_
      refine pv_iloadn (pc := 25) (n := 3) 3 rfl rfl (fm_dec dtX11_lays 18 rfl) ?_
      refine pv_aald (k := 16) (n := 8) (r := (27 + k)) (pc := 26) (by decide) (Or.inr (Or.inr rfl)) rfl (rw_readLife.inb hk (by omega)) (rw_readLife.at hk (by omega)) (rw_readLife.2.2.2 k (by omega)).2.1 (fm_dec dtX11_lays 19 rfl) ?_
      refine pv_iload (pc := 27) (i := 4) rfl (fm_dec dtX11_lays 20 rfl) ?_
      refine pv_iald (k := (27 + k)) (n := 6) (pc := 29) (rw_readLife.2.2.2 k (by omega)).2.2.1 (rw_readLife.2.2.2 k (by omega)).2.2.2.1 (rw_readLife.2.2.2 k (by omega)).2.2.2.2 (fm_inl (by decide)) (fm_dec dtX11_lays 21 rfl) ?_
      refine pv_iast (k := (35 + k)) (n := 6) (pc := 30) (rw_life.2.2.2 k (by omega)).2.2.1 (rw_life.2.2.2 k (by omega)).2.2.2.1 (rw_life.2.2.2 k (by omega)).2.2.2.2 (fm_inl (by decide)) (fm_dec dtX11_lays 22 rfl) ?_
      refine pv_iincc (pc := 31) 4 1 (by decide) rfl (by decide) rfl (fm_dec dtX11_lays 23 rfl) ?_
      dsimp only [List.set_cons_zero, List.set_cons_succ]
      rw [show (1 : Int32) + 1 = 2 by decide]
      refine pv_goto (pc := 34) 10 (by decide) (fm_dec dtX11_lays 24 rfl) ?_
      refine pv_iload (pc := 10) (i := 4) rfl (fm_dec dtX11_lays 7 rfl) ?_
      refine pv_aloadn (pc := 12) (n := 1) 1 rfl rfl (fm_dec dtX11_lays 8 rfl) ?_
      refine pv_iloadn (pc := 13) (n := 3) 3 rfl rfl (fm_dec dtX11_lays 9 rfl) ?_
      refine pv_aald (k := 17) (n := 8) (r := (35 + k)) (pc := 14) (by decide) (Or.inr (Or.inr rfl)) rfl (rw_life.inb hk (by omega)) (rw_life.at hk (by omega)) (rw_life.2.2.2 k (by omega)).2.1 (fm_dec dtX11_lays 10 rfl) ?_
      refine pv_alenI (k := (35 + k)) (n := 6) (v := 6) (pc := 15) (rw_life.2.2.2 k (by omega)).2.2.1 (rw_life.2.2.2 k (by omega)).2.2.2.1 (rw_life.2.2.2 k (by omega)).2.2.2.2 (by decide) (fm_dec dtX11_lays 11 rfl) ?_
      refine pv_icmp_ge (pc := 16) 37 (by decide) (fm_dec dtX11_lays 12 rfl) (fun hc16 => by exfalso; revert hc16; decide) (fun _ => ?_)
      refine pv_aloadn (pc := 19) (n := 1) 1 rfl rfl (fm_dec dtX11_lays 13 rfl) ?_
      refine pv_iloadn (pc := 20) (n := 3) 3 rfl rfl (fm_dec dtX11_lays 14 rfl) ?_
      refine pv_aald (k := 17) (n := 8) (r := (35 + k)) (pc := 21) (by decide) (Or.inr (Or.inr rfl)) rfl (rw_life.inb hk (by omega)) (rw_life.at hk (by omega)) (rw_life.2.2.2 k (by omega)).2.1 (fm_dec dtX11_lays 15 rfl) ?_
      refine pv_iload (pc := 22) (i := 4) rfl (fm_dec dtX11_lays 16 rfl) ?_
      refine pv_aloadn (pc := 24) (n := 0) 0 rfl rfl (fm_dec dtX11_lays 17 rfl) ?_
      refine pv_iloadn (pc := 25) (n := 3) 3 rfl rfl (fm_dec dtX11_lays 18 rfl) ?_
      refine pv_aald (k := 16) (n := 8) (r := (27 + k)) (pc := 26) (by decide) (Or.inr (Or.inr rfl)) rfl (rw_readLife.inb hk (by omega)) (rw_readLife.at hk (by omega)) (rw_readLife.2.2.2 k (by omega)).2.1 (fm_dec dtX11_lays 19 rfl) ?_
      refine pv_iload (pc := 27) (i := 4) rfl (fm_dec dtX11_lays 20 rfl) ?_
      refine pv_iald (k := (27 + k)) (n := 6) (pc := 29) (rw_readLife.2.2.2 k (by omega)).2.2.1 (rw_readLife.2.2.2 k (by omega)).2.2.2.1 (rw_readLife.2.2.2 k (by omega)).2.2.2.2 (fm_inl (by decide)) (fm_dec dtX11_lays 21 rfl) ?_
      refine pv_iast (k := (35 + k)) (n := 6) (pc := 30) (rw_life.2.2.2 k (by omega)).2.2.1 (rw_life.2.2.2 k (by omega)).2.2.2.1 (rw_life.2.2.2 k (by omega)).2.2.2.2 (fm_inl (by decide)) (fm_dec dtX11_lays 22 rfl) ?_
      refine pv_iincc (pc := 31) 4 1 (by decide) rfl (by decide) rfl (fm_dec dtX11_lays 23 rfl) ?_
      dsimp only [List.set_cons_zero, List.set_cons_succ]
      rw [show (2 : Int32) + 1 = 3 by decide]
      refine pv_goto (pc := 34) 10 (by decide) (fm_dec dtX11_lays 24 rfl) ?_
      refine pv_iload (pc := 10) (i := 4) rfl (fm_dec dtX11_lays 7 rfl) ?_
      refine pv_aloadn (pc := 12) (n := 1) 1 rfl rfl (fm_dec dtX11_lays 8 rfl) ?_
      refine pv_iloadn (pc := 13) (n := 3) 3 rfl rfl (fm_dec dtX11_lays 9 rfl) ?_
      refine pv_aald (k := 17) (n := 8) (r := (35 + k)) (pc := 14) (by decide) (Or.inr (Or.inr rfl)) rfl (rw_life.inb hk (by omega)) (rw_life.at hk (by omega)) (rw_life.2.2.2 k (by omega)).2.1 (fm_dec dtX11_lays 10 rfl) ?_
      refine pv_alenI (k := (35 + k)) (n := 6) (v := 6) (pc := 15) (rw_life.2.2.2 k (by omega)).2.2.1 (rw_life.2.2.2 k (by omega)).2.2.2.1 (rw_life.2.2.2 k (by omega)).2.2.2.2 (by decide) (fm_dec dtX11_lays 11 rfl) ?_
      refine pv_icmp_ge (pc := 16) 37 (by decide) (fm_dec dtX11_lays 12 rfl) (fun hc16 => by exfalso; revert hc16; decide) (fun _ => ?_)
      refine pv_aloadn (pc := 19) (n := 1) 1 rfl rfl (fm_dec dtX11_lays 13 rfl) ?_
      refine pv_iloadn (pc := 20) (n := 3) 3 rfl rfl (fm_dec dtX11_lays 14 rfl) ?_
      refine pv_aald (k := 17) (n := 8) (r := (35 + k)) (pc := 21) (by decide) (Or.inr (Or.inr rfl)) rfl (rw_life.inb hk (by omega)) (rw_life.at hk (by omega)) (rw_life.2.2.2 k (by omega)).2.1 (fm_dec dtX11_lays 15 rfl) ?_
      refine pv_iload (pc := 22) (i := 4) rfl (fm_dec dtX11_lays 16 rfl) ?_
      refine pv_aloadn (pc := 24) (n := 0) 0 rfl rfl (fm_dec dtX11_lays 17 rfl) ?_
      refine pv_iloadn (pc := 25) (n := 3) 3 rfl rfl (fm_dec dtX11_lays 18 rfl) ?_
      refine pv_aald (k := 16) (n := 8) (r := (27 + k)) (pc := 26) (by decide) (Or.inr (Or.inr rfl)) rfl (rw_readLife.inb hk (by omega)) (rw_readLife.at hk (by omega)) (rw_readLife.2.2.2 k (by omega)).2.1 (fm_dec dtX11_lays 19 rfl) ?_
      refine pv_iload (pc := 27) (i := 4) rfl (fm_dec dtX11_lays 20 rfl) ?_
      refine pv_iald (k := (27 + k)) (n := 6) (pc := 29) (rw_readLife.2.2.2 k (by omega)).2.2.1 (rw_readLife.2.2.2 k (by omega)).2.2.2.1 (rw_readLife.2.2.2 k (by omega)).2.2.2.2 (fm_inl (by decide)) (fm_dec dtX11_lays 21 rfl) ?_
      refine pv_iast (k := (35 + k)) (n := 6) (pc := 30) (rw_life.2.2.2 k (by omega)).2.2.1 (rw_life.2.2.2 k (by omega)).2.2.2.1 (rw_life.2.2.2 k (by omega)).2.2.2.2 (fm_inl (by decide)) (fm_dec dtX11_lays 22 rfl) ?_
      refine pv_iincc (pc := 31) 4 1 (by decide) rfl (by decide) rfl (fm_dec dtX11_lays 23 rfl) ?_
      dsimp only [List.set_cons_zero, List.set_cons_succ]
      rw [show (3 : Int32) + 1 = 4 by decide]
      refine pv_goto (pc := 34) 10 (by decide) (fm_dec dtX11_lays 24 rfl) ?_
      refine pv_iload (pc := 10) (i := 4) rfl (fm_dec dtX11_lays 7 rfl) ?_
      refine pv_aloadn (pc := 12) (n := 1) 1 rfl rfl (fm_dec dtX11_lays 8 rfl) ?_
      refine pv_iloadn (pc := 13) (n := 3) 3 rfl rfl (fm_dec dtX11_lays 9 rfl) ?_
      refine pv_aald (k := 17) (n := 8) (r := (35 + k)) (pc := 14) (by decide) (Or.inr (Or.inr rfl)) rfl (rw_life.inb hk (by omega)) (rw_life.at hk (by omega)) (rw_life.2.2.2 k (by omega)).2.1 (fm_dec dtX11_lays 10 rfl) ?_
      refine pv_alenI (k := (35 + k)) (n := 6) (v := 6) (pc := 15) (rw_life.2.2.2 k (by omega)).2.2.1 (rw_life.2.2.2 k (by omega)).2.2.2.1 (rw_life.2.2.2 k (by omega)).2.2.2.2 (by decide) (fm_dec dtX11_lays 11 rfl) ?_
      refine pv_icmp_ge (pc := 16) 37 (by decide) (fm_dec dtX11_lays 12 rfl) (fun hc16 => by exfalso; revert hc16; decide) (fun _ => ?_)
      refine pv_aloadn (pc := 19) (n := 1) 1 rfl rfl (fm_dec dtX11_lays 13 rfl) ?_
      refine pv_iloadn (pc := 20) (n := 3) 3 rfl rfl (fm_dec dtX11_lays 14 rfl) ?_
      refine pv_aald (k := 17) (n := 8) (r := (35 + k)) (pc := 21) (by decide) (Or.inr (Or.inr rfl)) rfl (rw_life.inb hk (by omega)) (rw_life.at hk (by omega)) (rw_life.2.2.2 k (by omega)).2.1 (fm_dec dtX11_lays 15 rfl) ?_
      refine pv_iload (pc := 22) (i := 4) rfl (fm_dec dtX11_lays 16 rfl) ?_
      refine pv_aloadn (pc := 24) (n := 0) 0 rfl rfl (fm_dec dtX11_lays 17 rfl) ?_
      refine pv_iloadn (pc := 25) (n := 3) 3 rfl rfl (fm_dec dtX11_lays 18 rfl) ?_
      refine pv_aald (k := 16) (n := 8) (r := (27 + k)) (pc := 26) (by decide) (Or.inr (Or.inr rfl)) rfl (rw_readLife.inb hk (by omega)) (rw_readLife.at hk (by omega)) (rw_readLife.2.2.2 k (by omega)).2.1 (fm_dec dtX11_lays 19 rfl) ?_
      refine pv_iload (pc := 27) (i := 4) rfl (fm_dec dtX11_lays 20 rfl) ?_
      refine pv_iald (k := (27 + k)) (n := 6) (pc := 29) (rw_readLife.2.2.2 k (by omega)).2.2.1 (rw_readLife.2.2.2 k (by omega)).2.2.2.1 (rw_readLife.2.2.2 k (by omega)).2.2.2.2 (fm_inl (by decide)) (fm_dec dtX11_lays 21 rfl) ?_
      refine pv_iast (k := (35 + k)) (n := 6) (pc := 30) (rw_life.2.2.2 k (by omega)).2.2.1 (rw_life.2.2.2 k (by omega)).2.2.2.1 (rw_life.2.2.2 k (by omega)).2.2.2.2 (fm_inl (by decide)) (fm_dec dtX11_lays 22 rfl) ?_
      refine pv_iincc (pc := 31) 4 1 (by decide) rfl (by decide) rfl (fm_dec dtX11_lays 23 rfl) ?_
      dsimp only [List.set_cons_zero, List.set_cons_succ]
      rw [show (4 : Int32) + 1 = 5 by decide]
      refine pv_goto (pc := 34) 10 (by decide) (fm_dec dtX11_lays 24 rfl) ?_
      refine pv_iload (pc := 10) (i := 4) rfl (fm_dec dtX11_lays 7 rfl) ?_
      refine pv_aloadn (pc := 12) (n := 1) 1 rfl rfl (fm_dec dtX11_lays 8 rfl) ?_
      refine pv_iloadn (pc := 13) (n := 3) 3 rfl rfl (fm_dec dtX11_lays 9 rfl) ?_
      refine pv_aald (k := 17) (n := 8) (r := (35 + k)) (pc := 14) (by decide) (Or.inr (Or.inr rfl)) rfl (rw_life.inb hk (by omega)) (rw_life.at hk (by omega)) (rw_life.2.2.2 k (by omega)).2.1 (fm_dec dtX11_lays 10 rfl) ?_
      refine pv_alenI (k := (35 + k)) (n := 6) (v := 6) (pc := 15) (rw_life.2.2.2 k (by omega)).2.2.1 (rw_life.2.2.2 k (by omega)).2.2.2.1 (rw_life.2.2.2 k (by omega)).2.2.2.2 (by decide) (fm_dec dtX11_lays 11 rfl) ?_
      refine pv_icmp_ge (pc := 16) 37 (by decide) (fm_dec dtX11_lays 12 rfl) (fun hc16 => by exfalso; revert hc16; decide) (fun _ => ?_)
      refine pv_aloadn (pc := 19) (n := 1) 1 rfl rfl (fm_dec dtX11_lays 13 rfl) ?_
      refine pv_iloadn (pc := 20) (n := 3) 3 rfl rfl (fm_dec dtX11_lays 14 rfl) ?_
      refine pv_aald (k := 17) (n := 8) (r := (35 + k)) (pc := 21) (by decide) (Or.inr (Or.inr rfl)) rfl (rw_life.inb hk (by omega)) (rw_life.at hk (by omega)) (rw_life.2.2.2 k (by omega)).2.1 (fm_dec dtX11_lays 15 rfl) ?_
      refine pv_iload (pc := 22) (i := 4) rfl (fm_dec dtX11_lays 16 rfl) ?_
      refine pv_aloadn (pc := 24) (n := 0) 0 rfl rfl (fm_dec dtX11_lays 17 rfl) ?_
      refine pv_iloadn (pc := 25) (n := 3) 3 rfl rfl (fm_dec dtX11_lays 18 rfl) ?_
      refine pv_aald (k := 16) (n := 8) (r := (27 + k)) (pc := 26) (by decide) (Or.inr (Or.inr rfl)) rfl (rw_readLife.inb hk (by omega)) (rw_readLife.at hk (by omega)) (rw_readLife.2.2.2 k (by omega)).2.1 (fm_dec dtX11_lays 19 rfl) ?_
      refine pv_iload (pc := 27) (i := 4) rfl (fm_dec dtX11_lays 20 rfl) ?_
      refine pv_iald (k := (27 + k)) (n := 6) (pc := 29) (rw_readLife.2.2.2 k (by omega)).2.2.1 (rw_readLife.2.2.2 k (by omega)).2.2.2.1 (rw_readLife.2.2.2 k (by omega)).2.2.2.2 (fm_inl (by decide)) (fm_dec dtX11_lays 21 rfl) ?_
      refine pv_iast (k := (35 + k)) (n := 6) (pc := 30) (rw_life.2.2.2 k (by omega)).2.2.1 (rw_life.2.2.2 k (by omega)).2.2.2.1 (rw_life.2.2.2 k (by omega)).2.2.2.2 (fm_inl (by decide)) (fm_dec dtX11_lays 22 rfl) ?_
      refine pv_iincc (pc := 31) 4 1 (by decide) rfl (by decide) rfl (fm_dec dtX11_lays 23 rfl) ?_
      dsimp only [List.set_cons_zero, List.set_cons_succ]
      rw [show (5 : Int32) + 1 = 6 by decide]
      refine pv_goto (pc := 34) 10 (by decide) (fm_dec dtX11_lays 24 rfl) ?_
      refine pv_iload (pc := 10) (i := 4) rfl (fm_dec dtX11_lays 7 rfl) ?_
      refine pv_aloadn (pc := 12) (n := 1) 1 rfl rfl (fm_dec dtX11_lays 8 rfl) ?_
      refine pv_iloadn (pc := 13) (n := 3) 3 rfl rfl (fm_dec dtX11_lays 9 rfl) ?_
      refine pv_aald (k := 17) (n := 8) (r := (35 + k)) (pc := 14) (by decide) (Or.inr (Or.inr rfl)) rfl (rw_life.inb hk (by omega)) (rw_life.at hk (by omega)) (rw_life.2.2.2 k (by omega)).2.1 (fm_dec dtX11_lays 10 rfl) ?_
      refine pv_alenI (k := (35 + k)) (n := 6) (v := 6) (pc := 15) (rw_life.2.2.2 k (by omega)).2.2.1 (rw_life.2.2.2 k (by omega)).2.2.2.1 (rw_life.2.2.2 k (by omega)).2.2.2.2 (by decide) (fm_dec dtX11_lays 11 rfl) ?_
      refine pv_icmp_ge (pc := 16) 37 (by decide) (fm_dec dtX11_lays 12 rfl) (fun _ => ?_) (fun hc16 => by exfalso; revert hc16; decide)
      refine pv_iincc (pc := 37) 3 1 (by decide) rfl (by decide) rfl (fm_dec dtX11_lays 25 rfl) ?_
      dsimp only [List.set_cons_zero, List.set_cons_succ]
      refine pv_goto (pc := 40) 2 (by decide) (fm_dec dtX11_lays 26 rfl) ?_
      refine ih (m - 1) (by omega) _ (k + 1) _ _ (i32_p1 hk (by omega)) (by omega) (fun M' h' => hq M' (h'.step (N := 8) (by omega) hN (by omega) (fun j hj => ?_) (fun q j hq9 => ?_) rfl))
      · rcases (show j = 0 ∨ j = 1 ∨ j = 2 ∨ j = 3 ∨ j = 4 ∨ j = 5 by omega) with rfl | rfl | rfl | rfl | rfl | rfl <;> simp [fmI_at, show ¬ (27 + k = 35 + k) by omega]
      · simp [fmI_at, hq9]
theorem c_lays_life {M : fmM} {Q : fmR → fmM → Prop} {many : Int32} {c : Nat} (hmany : many.toInt = c) (hN : c ≤ 8) (hq : ∀ M' : fmM, lyOk 27 35 6 0 c M M' → Q (.inl none) M') : pvGood Tm 0 qX11_lays [.ref 16, .ref 17, .int many] M Q := by
  refine pvGood_of (Nat.le_of_ble_eq_true rfl) ?_
  show pvEv Tm 0 qX11_lays 0 [some (.ref 16), some (.ref 17), some (.int many), none, none] [] M Q
  refine pv_iconst (pc := 0) (v := 0) (by decide) (fm_dec dtX11_lays 0 rfl) ?_
  refine pv_istoren (pc := 1) (n := 3) 3 rfl (by decide) rfl (fm_dec dtX11_lays 1 rfl) ?_
  exact ly_life hmany hN c M 0 0 none (by decide) (by omega) hq
set_option maxRecDepth 20000 in
theorem ly_fact {Q : fmR → fmM → Prop} {many : Int32} {c : Nat} (hmany : many.toInt = c) (hN : c ≤ 24) : ∀ (m : Nat) (M : fmM) (k : Nat) (kk : Int32) (v4 : Option Value), kk.toInt = k → k + m = c → (∀ M' : fmM, lyOk 43 67 3 k c M M' → Q (.inl none) M') → pvEv Tm 0 qX11_lays 2 [some (.ref 18), some (.ref 19), some (.int many), some (.int kk), v4] [] M Q := by
  intro m
  induction m using Nat.strongRecOn with
  | _ m ih =>
    intro M k kk v4 hk hm hq
    refine pv_iloadn (pc := 2) (n := 3) 3 rfl rfl (fm_dec dtX11_lays 2 rfl) ?_
    refine pv_iloadn (pc := 3) (n := 2) 2 rfl rfl (fm_dec dtX11_lays 3 rfl) ?_
    refine pv_icmp_ge (pc := 4) 43 (by decide) (fm_dec dtX11_lays 4 rfl) (fun hc4 => ?_) (fun hc4 => ?_)
    · exact pv_return (pc := 43) rfl (fm_dec dtX11_lays 27 rfl) (hq M (by have : k = c := (by rw [sc_le] at hc4; omega); subst this; exact lyOk.nil))
    · have hkc : k < c := (by rw [sc_le] at hc4; omega)
      refine pv_iconst (pc := 7) (v := 0) (by decide) (fm_dec dtX11_lays 5 rfl) ?_
      refine pv_istore (pc := 8) (i := 4) (by decide) rfl (fm_dec dtX11_lays 6 rfl) ?_
      dsimp only [List.set_cons_zero, List.set_cons_succ]
      refine pv_iload (pc := 10) (i := 4) rfl (fm_dec dtX11_lays 7 rfl) ?_
      refine pv_aloadn (pc := 12) (n := 1) 1 rfl rfl (fm_dec dtX11_lays 8 rfl) ?_
      refine pv_iloadn (pc := 13) (n := 3) 3 rfl rfl (fm_dec dtX11_lays 9 rfl) ?_
      refine pv_aald (k := 19) (n := 24) (r := (67 + k)) (pc := 14) (by decide) (Or.inr (Or.inr rfl)) rfl (rw_fact.inb hk (by omega)) (rw_fact.at hk (by omega)) (rw_fact.2.2.2 k (by omega)).2.1 (fm_dec dtX11_lays 10 rfl) ?_
      refine pv_alenI (k := (67 + k)) (n := 3) (v := 3) (pc := 15) (rw_fact.2.2.2 k (by omega)).2.2.1 (rw_fact.2.2.2 k (by omega)).2.2.2.1 (rw_fact.2.2.2 k (by omega)).2.2.2.2 (by decide) (fm_dec dtX11_lays 11 rfl) ?_
      refine pv_icmp_ge (pc := 16) 37 (by decide) (fm_dec dtX11_lays 12 rfl) (fun hc16 => by exfalso; revert hc16; decide) (fun _ => ?_)
      refine pv_aloadn (pc := 19) (n := 1) 1 rfl rfl (fm_dec dtX11_lays 13 rfl) ?_
      refine pv_iloadn (pc := 20) (n := 3) 3 rfl rfl (fm_dec dtX11_lays 14 rfl) ?_
      refine pv_aald (k := 19) (n := 24) (r := (67 + k)) (pc := 21) (by decide) (Or.inr (Or.inr rfl)) rfl (rw_fact.inb hk (by omega)) (rw_fact.at hk (by omega)) (rw_fact.2.2.2 k (by omega)).2.1 (fm_dec dtX11_lays 15 rfl) ?_
      refine pv_iload (pc := 22) (i := 4) rfl (fm_dec dtX11_lays 16 rfl) ?_
      refine pv_aloadn (pc := 24) (n := 0) 0 rfl rfl (fm_dec dtX11_lays 17 rfl) ?_
      refine pv_iloadn (pc := 25) (n := 3) 3 rfl rfl (fm_dec dtX11_lays 18 rfl) ?_
      refine pv_aald (k := 18) (n := 24) (r := (43 + k)) (pc := 26) (by decide) (Or.inr (Or.inr rfl)) rfl (rw_readFact.inb hk (by omega)) (rw_readFact.at hk (by omega)) (rw_readFact.2.2.2 k (by omega)).2.1 (fm_dec dtX11_lays 19 rfl) ?_
      refine pv_iload (pc := 27) (i := 4) rfl (fm_dec dtX11_lays 20 rfl) ?_
      refine pv_iald (k := (43 + k)) (n := 3) (pc := 29) (rw_readFact.2.2.2 k (by omega)).2.2.1 (rw_readFact.2.2.2 k (by omega)).2.2.2.1 (rw_readFact.2.2.2 k (by omega)).2.2.2.2 (fm_inl (by decide)) (fm_dec dtX11_lays 21 rfl) ?_
      refine pv_iast (k := (67 + k)) (n := 3) (pc := 30) (rw_fact.2.2.2 k (by omega)).2.2.1 (rw_fact.2.2.2 k (by omega)).2.2.2.1 (rw_fact.2.2.2 k (by omega)).2.2.2.2 (fm_inl (by decide)) (fm_dec dtX11_lays 22 rfl) ?_
      refine pv_iincc (pc := 31) 4 1 (by decide) rfl (by decide) rfl (fm_dec dtX11_lays 23 rfl) ?_
      dsimp only [List.set_cons_zero, List.set_cons_succ]
      rw [show (0 : Int32) + 1 = 1 by decide]
      refine pv_goto (pc := 34) 10 (by decide) (fm_dec dtX11_lays 24 rfl) ?_
      refine pv_iload (pc := 10) (i := 4) rfl (fm_dec dtX11_lays 7 rfl) ?_
      refine pv_aloadn (pc := 12) (n := 1) 1 rfl rfl (fm_dec dtX11_lays 8 rfl) ?_
      refine pv_iloadn (pc := 13) (n := 3) 3 rfl rfl (fm_dec dtX11_lays 9 rfl) ?_
      refine pv_aald (k := 19) (n := 24) (r := (67 + k)) (pc := 14) (by decide) (Or.inr (Or.inr rfl)) rfl (rw_fact.inb hk (by omega)) (rw_fact.at hk (by omega)) (rw_fact.2.2.2 k (by omega)).2.1 (fm_dec dtX11_lays 10 rfl) ?_
      refine pv_alenI (k := (67 + k)) (n := 3) (v := 3) (pc := 15) (rw_fact.2.2.2 k (by omega)).2.2.1 (rw_fact.2.2.2 k (by omega)).2.2.2.1 (rw_fact.2.2.2 k (by omega)).2.2.2.2 (by decide) (fm_dec dtX11_lays 11 rfl) ?_
      refine pv_icmp_ge (pc := 16) 37 (by decide) (fm_dec dtX11_lays 12 rfl) (fun hc16 => by exfalso; revert hc16; decide) (fun _ => ?_)
      refine pv_aloadn (pc := 19) (n := 1) 1 rfl rfl (fm_dec dtX11_lays 13 rfl) ?_
      refine pv_iloadn (pc := 20) (n := 3) 3 rfl rfl (fm_dec dtX11_lays 14 rfl) ?_
      refine pv_aald (k := 19) (n := 24) (r := (67 + k)) (pc := 21) (by decide) (Or.inr (Or.inr rfl)) rfl (rw_fact.inb hk (by omega)) (rw_fact.at hk (by omega)) (rw_fact.2.2.2 k (by omega)).2.1 (fm_dec dtX11_lays 15 rfl) ?_
      refine pv_iload (pc := 22) (i := 4) rfl (fm_dec dtX11_lays 16 rfl) ?_
      refine pv_aloadn (pc := 24) (n := 0) 0 rfl rfl (fm_dec dtX11_lays 17 rfl) ?_
      refine pv_iloadn (pc := 25) (n := 3) 3 rfl rfl (fm_dec dtX11_lays 18 rfl) ?_
      refine pv_aald (k := 18) (n := 24) (r := (43 + k)) (pc := 26) (by decide) (Or.inr (Or.inr rfl)) rfl (rw_readFact.inb hk (by omega)) (rw_readFact.at hk (by omega)) (rw_readFact.2.2.2 k (by omega)).2.1 (fm_dec dtX11_lays 19 rfl) ?_
      refine pv_iload (pc := 27) (i := 4) rfl (fm_dec dtX11_lays 20 rfl) ?_
      refine pv_iald (k := (43 + k)) (n := 3) (pc := 29) (rw_readFact.2.2.2 k (by omega)).2.2.1 (rw_readFact.2.2.2 k (by omega)).2.2.2.1 (rw_readFact.2.2.2 k (by omega)).2.2.2.2 (fm_inl (by decide)) (fm_dec dtX11_lays 21 rfl) ?_
      refine pv_iast (k := (67 + k)) (n := 3) (pc := 30) (rw_fact.2.2.2 k (by omega)).2.2.1 (rw_fact.2.2.2 k (by omega)).2.2.2.1 (rw_fact.2.2.2 k (by omega)).2.2.2.2 (fm_inl (by decide)) (fm_dec dtX11_lays 22 rfl) ?_
      refine pv_iincc (pc := 31) 4 1 (by decide) rfl (by decide) rfl (fm_dec dtX11_lays 23 rfl) ?_
      dsimp only [List.set_cons_zero, List.set_cons_succ]
      rw [show (1 : Int32) + 1 = 2 by decide]
      refine pv_goto (pc := 34) 10 (by decide) (fm_dec dtX11_lays 24 rfl) ?_
      refine pv_iload (pc := 10) (i := 4) rfl (fm_dec dtX11_lays 7 rfl) ?_
      refine pv_aloadn (pc := 12) (n := 1) 1 rfl rfl (fm_dec dtX11_lays 8 rfl) ?_
      refine pv_iloadn (pc := 13) (n := 3) 3 rfl rfl (fm_dec dtX11_lays 9 rfl) ?_
      refine pv_aald (k := 19) (n := 24) (r := (67 + k)) (pc := 14) (by decide) (Or.inr (Or.inr rfl)) rfl (rw_fact.inb hk (by omega)) (rw_fact.at hk (by omega)) (rw_fact.2.2.2 k (by omega)).2.1 (fm_dec dtX11_lays 10 rfl) ?_
      refine pv_alenI (k := (67 + k)) (n := 3) (v := 3) (pc := 15) (rw_fact.2.2.2 k (by omega)).2.2.1 (rw_fact.2.2.2 k (by omega)).2.2.2.1 (rw_fact.2.2.2 k (by omega)).2.2.2.2 (by decide) (fm_dec dtX11_lays 11 rfl) ?_
      refine pv_icmp_ge (pc := 16) 37 (by decide) (fm_dec dtX11_lays 12 rfl) (fun hc16 => by exfalso; revert hc16; decide) (fun _ => ?_)
      refine pv_aloadn (pc := 19) (n := 1) 1 rfl rfl (fm_dec dtX11_lays 13 rfl) ?_
      refine pv_iloadn (pc := 20) (n := 3) 3 rfl rfl (fm_dec dtX11_lays 14 rfl) ?_
      refine pv_aald (k := 19) (n := 24) (r := (67 + k)) (pc := 21) (by decide) (Or.inr (Or.inr rfl)) rfl (rw_fact.inb hk (by omega)) (rw_fact.at hk (by omega)) (rw_fact.2.2.2 k (by omega)).2.1 (fm_dec dtX11_lays 15 rfl) ?_
      refine pv_iload (pc := 22) (i := 4) rfl (fm_dec dtX11_lays 16 rfl) ?_
      refine pv_aloadn (pc := 24) (n := 0) 0 rfl rfl (fm_dec dtX11_lays 17 rfl) ?_
      refine pv_iloadn (pc := 25) (n := 3) 3 rfl rfl (fm_dec dtX11_lays 18 rfl) ?_
      refine pv_aald (k := 18) (n := 24) (r := (43 + k)) (pc := 26) (by decide) (Or.inr (Or.inr rfl)) rfl (rw_readFact.inb hk (by omega)) (rw_readFact.at hk (by omega)) (rw_readFact.2.2.2 k (by omega)).2.1 (fm_dec dtX11_lays 19 rfl) ?_
      refine pv_iload (pc := 27) (i := 4) rfl (fm_dec dtX11_lays 20 rfl) ?_
      refine pv_iald (k := (43 + k)) (n := 3) (pc := 29) (rw_readFact.2.2.2 k (by omega)).2.2.1 (rw_readFact.2.2.2 k (by omega)).2.2.2.1 (rw_readFact.2.2.2 k (by omega)).2.2.2.2 (fm_inl (by decide)) (fm_dec dtX11_lays 21 rfl) ?_
      refine pv_iast (k := (67 + k)) (n := 3) (pc := 30) (rw_fact.2.2.2 k (by omega)).2.2.1 (rw_fact.2.2.2 k (by omega)).2.2.2.1 (rw_fact.2.2.2 k (by omega)).2.2.2.2 (fm_inl (by decide)) (fm_dec dtX11_lays 22 rfl) ?_
      refine pv_iincc (pc := 31) 4 1 (by decide) rfl (by decide) rfl (fm_dec dtX11_lays 23 rfl) ?_
      dsimp only [List.set_cons_zero, List.set_cons_succ]
      rw [show (2 : Int32) + 1 = 3 by decide]
      refine pv_goto (pc := 34) 10 (by decide) (fm_dec dtX11_lays 24 rfl) ?_
      refine pv_iload (pc := 10) (i := 4) rfl (fm_dec dtX11_lays 7 rfl) ?_
      refine pv_aloadn (pc := 12) (n := 1) 1 rfl rfl (fm_dec dtX11_lays 8 rfl) ?_
      refine pv_iloadn (pc := 13) (n := 3) 3 rfl rfl (fm_dec dtX11_lays 9 rfl) ?_
      refine pv_aald (k := 19) (n := 24) (r := (67 + k)) (pc := 14) (by decide) (Or.inr (Or.inr rfl)) rfl (rw_fact.inb hk (by omega)) (rw_fact.at hk (by omega)) (rw_fact.2.2.2 k (by omega)).2.1 (fm_dec dtX11_lays 10 rfl) ?_
      refine pv_alenI (k := (67 + k)) (n := 3) (v := 3) (pc := 15) (rw_fact.2.2.2 k (by omega)).2.2.1 (rw_fact.2.2.2 k (by omega)).2.2.2.1 (rw_fact.2.2.2 k (by omega)).2.2.2.2 (by decide) (fm_dec dtX11_lays 11 rfl) ?_
      refine pv_icmp_ge (pc := 16) 37 (by decide) (fm_dec dtX11_lays 12 rfl) (fun _ => ?_) (fun hc16 => by exfalso; revert hc16; decide)
      refine pv_iincc (pc := 37) 3 1 (by decide) rfl (by decide) rfl (fm_dec dtX11_lays 25 rfl) ?_
      dsimp only [List.set_cons_zero, List.set_cons_succ]
      refine pv_goto (pc := 40) 2 (by decide) (fm_dec dtX11_lays 26 rfl) ?_
      refine ih (m - 1) (by omega) _ (k + 1) _ _ (i32_p1 hk (by omega)) (by omega) (fun M' h' => hq M' (h'.step (N := 24) (by omega) hN (by omega) (fun j hj => ?_) (fun q j hq9 => ?_) rfl))
      · rcases (show j = 0 ∨ j = 1 ∨ j = 2 by omega) with rfl | rfl | rfl <;> simp [fmI_at, show ¬ (43 + k = 67 + k) by omega]
      · simp [fmI_at, hq9]
theorem c_lays_fact {M : fmM} {Q : fmR → fmM → Prop} {many : Int32} {c : Nat} (hmany : many.toInt = c) (hN : c ≤ 24) (hq : ∀ M' : fmM, lyOk 43 67 3 0 c M M' → Q (.inl none) M') : pvGood Tm 0 qX11_lays [.ref 18, .ref 19, .int many] M Q := by
  refine pvGood_of (Nat.le_of_ble_eq_true rfl) ?_
  show pvEv Tm 0 qX11_lays 0 [some (.ref 18), some (.ref 19), some (.int many), none, none] [] M Q
  refine pv_iconst (pc := 0) (v := 0) (by decide) (fm_dec dtX11_lays 0 rfl) ?_
  refine pv_istoren (pc := 1) (n := 3) 3 rfl (by decide) rfl (fm_dec dtX11_lays 1 rfl) ?_
  exact ly_fact hmany hN c M 0 0 none (by decide) (by omega) hq
set_option maxRecDepth 20000 in
theorem ly_page {Q : fmR → fmM → Prop} {many : Int32} {c : Nat} (hmany : many.toInt = c) (hN : c ≤ 6) : ∀ (m : Nat) (M : fmM) (k : Nat) (kk : Int32) (v4 : Option Value), kk.toInt = k → k + m = c → (∀ M' : fmM, lyOk 417 411 2 k c M M' → Q (.inl none) M') → pvEv Tm 0 qX11_lays 2 [some (.ref 23), some (.ref 22), some (.int many), some (.int kk), v4] [] M Q := by
  intro m
  induction m using Nat.strongRecOn with
  | _ m ih =>
    intro M k kk v4 hk hm hq
    refine pv_iloadn (pc := 2) (n := 3) 3 rfl rfl (fm_dec dtX11_lays 2 rfl) ?_
    refine pv_iloadn (pc := 3) (n := 2) 2 rfl rfl (fm_dec dtX11_lays 3 rfl) ?_
    refine pv_icmp_ge (pc := 4) 43 (by decide) (fm_dec dtX11_lays 4 rfl) (fun hc4 => ?_) (fun hc4 => ?_)
    · exact pv_return (pc := 43) rfl (fm_dec dtX11_lays 27 rfl) (hq M (by have : k = c := (by rw [sc_le] at hc4; omega); subst this; exact lyOk.nil))
    · have hkc : k < c := (by rw [sc_le] at hc4; omega)
      refine pv_iconst (pc := 7) (v := 0) (by decide) (fm_dec dtX11_lays 5 rfl) ?_
      refine pv_istore (pc := 8) (i := 4) (by decide) rfl (fm_dec dtX11_lays 6 rfl) ?_
      dsimp only [List.set_cons_zero, List.set_cons_succ]
      refine pv_iload (pc := 10) (i := 4) rfl (fm_dec dtX11_lays 7 rfl) ?_
      refine pv_aloadn (pc := 12) (n := 1) 1 rfl rfl (fm_dec dtX11_lays 8 rfl) ?_
      refine pv_iloadn (pc := 13) (n := 3) 3 rfl rfl (fm_dec dtX11_lays 9 rfl) ?_
      refine pv_aald (k := 22) (n := 6) (r := (411 + k)) (pc := 14) (by decide) (Or.inr (Or.inr rfl)) rfl (rw_page.inb hk (by omega)) (rw_page.at hk (by omega)) (rw_page.2.2.2 k (by omega)).2.1 (fm_dec dtX11_lays 10 rfl) ?_
      refine pv_alenI (k := (411 + k)) (n := 2) (v := 2) (pc := 15) (rw_page.2.2.2 k (by omega)).2.2.1 (rw_page.2.2.2 k (by omega)).2.2.2.1 (rw_page.2.2.2 k (by omega)).2.2.2.2 (by decide) (fm_dec dtX11_lays 11 rfl) ?_
      refine pv_icmp_ge (pc := 16) 37 (by decide) (fm_dec dtX11_lays 12 rfl) (fun hc16 => by exfalso; revert hc16; decide) (fun _ => ?_)
      refine pv_aloadn (pc := 19) (n := 1) 1 rfl rfl (fm_dec dtX11_lays 13 rfl) ?_
      refine pv_iloadn (pc := 20) (n := 3) 3 rfl rfl (fm_dec dtX11_lays 14 rfl) ?_
      refine pv_aald (k := 22) (n := 6) (r := (411 + k)) (pc := 21) (by decide) (Or.inr (Or.inr rfl)) rfl (rw_page.inb hk (by omega)) (rw_page.at hk (by omega)) (rw_page.2.2.2 k (by omega)).2.1 (fm_dec dtX11_lays 15 rfl) ?_
      refine pv_iload (pc := 22) (i := 4) rfl (fm_dec dtX11_lays 16 rfl) ?_
      refine pv_aloadn (pc := 24) (n := 0) 0 rfl rfl (fm_dec dtX11_lays 17 rfl) ?_
      refine pv_iloadn (pc := 25) (n := 3) 3 rfl rfl (fm_dec dtX11_lays 18 rfl) ?_
      refine pv_aald (k := 23) (n := 6) (r := (417 + k)) (pc := 26) (by decide) (Or.inr (Or.inr rfl)) rfl (rw_readPage.inb hk (by omega)) (rw_readPage.at hk (by omega)) (rw_readPage.2.2.2 k (by omega)).2.1 (fm_dec dtX11_lays 19 rfl) ?_
      refine pv_iload (pc := 27) (i := 4) rfl (fm_dec dtX11_lays 20 rfl) ?_
      refine pv_iald (k := (417 + k)) (n := 2) (pc := 29) (rw_readPage.2.2.2 k (by omega)).2.2.1 (rw_readPage.2.2.2 k (by omega)).2.2.2.1 (rw_readPage.2.2.2 k (by omega)).2.2.2.2 (fm_inl (by decide)) (fm_dec dtX11_lays 21 rfl) ?_
      refine pv_iast (k := (411 + k)) (n := 2) (pc := 30) (rw_page.2.2.2 k (by omega)).2.2.1 (rw_page.2.2.2 k (by omega)).2.2.2.1 (rw_page.2.2.2 k (by omega)).2.2.2.2 (fm_inl (by decide)) (fm_dec dtX11_lays 22 rfl) ?_
      refine pv_iincc (pc := 31) 4 1 (by decide) rfl (by decide) rfl (fm_dec dtX11_lays 23 rfl) ?_
      dsimp only [List.set_cons_zero, List.set_cons_succ]
      rw [show (0 : Int32) + 1 = 1 by decide]
      refine pv_goto (pc := 34) 10 (by decide) (fm_dec dtX11_lays 24 rfl) ?_
      refine pv_iload (pc := 10) (i := 4) rfl (fm_dec dtX11_lays 7 rfl) ?_
      refine pv_aloadn (pc := 12) (n := 1) 1 rfl rfl (fm_dec dtX11_lays 8 rfl) ?_
      refine pv_iloadn (pc := 13) (n := 3) 3 rfl rfl (fm_dec dtX11_lays 9 rfl) ?_
      refine pv_aald (k := 22) (n := 6) (r := (411 + k)) (pc := 14) (by decide) (Or.inr (Or.inr rfl)) rfl (rw_page.inb hk (by omega)) (rw_page.at hk (by omega)) (rw_page.2.2.2 k (by omega)).2.1 (fm_dec dtX11_lays 10 rfl) ?_
      refine pv_alenI (k := (411 + k)) (n := 2) (v := 2) (pc := 15) (rw_page.2.2.2 k (by omega)).2.2.1 (rw_page.2.2.2 k (by omega)).2.2.2.1 (rw_page.2.2.2 k (by omega)).2.2.2.2 (by decide) (fm_dec dtX11_lays 11 rfl) ?_
      refine pv_icmp_ge (pc := 16) 37 (by decide) (fm_dec dtX11_lays 12 rfl) (fun hc16 => by exfalso; revert hc16; decide) (fun _ => ?_)
      refine pv_aloadn (pc := 19) (n := 1) 1 rfl rfl (fm_dec dtX11_lays 13 rfl) ?_
      refine pv_iloadn (pc := 20) (n := 3) 3 rfl rfl (fm_dec dtX11_lays 14 rfl) ?_
      refine pv_aald (k := 22) (n := 6) (r := (411 + k)) (pc := 21) (by decide) (Or.inr (Or.inr rfl)) rfl (rw_page.inb hk (by omega)) (rw_page.at hk (by omega)) (rw_page.2.2.2 k (by omega)).2.1 (fm_dec dtX11_lays 15 rfl) ?_
      refine pv_iload (pc := 22) (i := 4) rfl (fm_dec dtX11_lays 16 rfl) ?_
      refine pv_aloadn (pc := 24) (n := 0) 0 rfl rfl (fm_dec dtX11_lays 17 rfl) ?_
      refine pv_iloadn (pc := 25) (n := 3) 3 rfl rfl (fm_dec dtX11_lays 18 rfl) ?_
      refine pv_aald (k := 23) (n := 6) (r := (417 + k)) (pc := 26) (by decide) (Or.inr (Or.inr rfl)) rfl (rw_readPage.inb hk (by omega)) (rw_readPage.at hk (by omega)) (rw_readPage.2.2.2 k (by omega)).2.1 (fm_dec dtX11_lays 19 rfl) ?_
      refine pv_iload (pc := 27) (i := 4) rfl (fm_dec dtX11_lays 20 rfl) ?_
      refine pv_iald (k := (417 + k)) (n := 2) (pc := 29) (rw_readPage.2.2.2 k (by omega)).2.2.1 (rw_readPage.2.2.2 k (by omega)).2.2.2.1 (rw_readPage.2.2.2 k (by omega)).2.2.2.2 (fm_inl (by decide)) (fm_dec dtX11_lays 21 rfl) ?_
      refine pv_iast (k := (411 + k)) (n := 2) (pc := 30) (rw_page.2.2.2 k (by omega)).2.2.1 (rw_page.2.2.2 k (by omega)).2.2.2.1 (rw_page.2.2.2 k (by omega)).2.2.2.2 (fm_inl (by decide)) (fm_dec dtX11_lays 22 rfl) ?_
      refine pv_iincc (pc := 31) 4 1 (by decide) rfl (by decide) rfl (fm_dec dtX11_lays 23 rfl) ?_
      dsimp only [List.set_cons_zero, List.set_cons_succ]
      rw [show (1 : Int32) + 1 = 2 by decide]
      refine pv_goto (pc := 34) 10 (by decide) (fm_dec dtX11_lays 24 rfl) ?_
      refine pv_iload (pc := 10) (i := 4) rfl (fm_dec dtX11_lays 7 rfl) ?_
      refine pv_aloadn (pc := 12) (n := 1) 1 rfl rfl (fm_dec dtX11_lays 8 rfl) ?_
      refine pv_iloadn (pc := 13) (n := 3) 3 rfl rfl (fm_dec dtX11_lays 9 rfl) ?_
      refine pv_aald (k := 22) (n := 6) (r := (411 + k)) (pc := 14) (by decide) (Or.inr (Or.inr rfl)) rfl (rw_page.inb hk (by omega)) (rw_page.at hk (by omega)) (rw_page.2.2.2 k (by omega)).2.1 (fm_dec dtX11_lays 10 rfl) ?_
      refine pv_alenI (k := (411 + k)) (n := 2) (v := 2) (pc := 15) (rw_page.2.2.2 k (by omega)).2.2.1 (rw_page.2.2.2 k (by omega)).2.2.2.1 (rw_page.2.2.2 k (by omega)).2.2.2.2 (by decide) (fm_dec dtX11_lays 11 rfl) ?_
      refine pv_icmp_ge (pc := 16) 37 (by decide) (fm_dec dtX11_lays 12 rfl) (fun _ => ?_) (fun hc16 => by exfalso; revert hc16; decide)
      refine pv_iincc (pc := 37) 3 1 (by decide) rfl (by decide) rfl (fm_dec dtX11_lays 25 rfl) ?_
      dsimp only [List.set_cons_zero, List.set_cons_succ]
      refine pv_goto (pc := 40) 2 (by decide) (fm_dec dtX11_lays 26 rfl) ?_
      refine ih (m - 1) (by omega) _ (k + 1) _ _ (i32_p1 hk (by omega)) (by omega) (fun M' h' => hq M' (h'.step (N := 6) (by omega) hN (by omega) (fun j hj => ?_) (fun q j hq9 => ?_) rfl))
      · rcases (show j = 0 ∨ j = 1 by omega) with rfl | rfl <;> simp [fmI_at, show ¬ (417 + k = 411 + k) by omega]
      · simp [fmI_at, hq9]
theorem c_lays_page {M : fmM} {Q : fmR → fmM → Prop} {many : Int32} {c : Nat} (hmany : many.toInt = c) (hN : c ≤ 6) (hq : ∀ M' : fmM, lyOk 417 411 2 0 c M M' → Q (.inl none) M') : pvGood Tm 0 qX11_lays [.ref 23, .ref 22, .int many] M Q := by
  refine pvGood_of (Nat.le_of_ble_eq_true rfl) ?_
  show pvEv Tm 0 qX11_lays 0 [some (.ref 23), some (.ref 22), some (.int many), none, none] [] M Q
  refine pv_iconst (pc := 0) (v := 0) (by decide) (fm_dec dtX11_lays 0 rfl) ?_
  refine pv_istoren (pc := 1) (n := 3) 3 rfl (by decide) rfl (fm_dec dtX11_lays 1 rfl) ?_
  exact ly_page hmany hN c M 0 0 none (by decide) (by omega) hq
set_option maxRecDepth 20000 in
theorem c_number1 {M : fmM} {Q : fmR → fmM → Prop} {lo hi : Int32} (hf : ¬ M.1 0 5 = 0) (hq : Q (.inl (some (.int 0))) M) : pvGood Tm 2 qX11_number [.ref 0, .int lo, .int hi] M Q := by
  refine pvGood_of (Nat.le_of_ble_eq_true rfl) ?_
  show pvEv Tm 2 qX11_number 0 [some (.ref 0), some (.int lo), some (.int hi), none, none] [] M Q
  refine pv_aloadn (pc := 0) (n := 0) 0 rfl rfl (fm_dec dtX11_number 0 rfl) ?_
  refine pv_getI (k := 0) (j := 5) (ci := 11) (pc := 1) pfl_X11_117 (by decide) rfl (by decide) (fm_dec dtX11_number 1 rfl) ?_
  refine pv_if_eq (pc := 4) 9 (by decide) (fm_dec dtX11_number 2 rfl) (fun hc4 => by exfalso; exact hf hc4) (fun _ => ?_)
  refine pv_iconst (pc := 7) (v := 0) (by decide) (fm_dec dtX11_number 3 rfl) ?_
  exact pv_ireturn (pc := 8) rfl (fm_dec dtX11_number 4 rfl) hq
