-- THE REFERENCE READS WORKS
def stRep (M : fmM) (b : Nat) (ss : tS) : Prop := ∀ i s, ss[i]? = some s → (M.1 (423 + b + i) 0).toInt = s.1 ∧ (s.1 ≠ 3 → (M.1 (423 + b + i) 1).toInt = s.2.1) ∧ (M.1 (423 + b + i) 2).toInt = s.2.2
def srFr (b : Nat) (M M' : fmM) : Prop := (∀ k j, k ≠ 0 → ¬ (423 + b ≤ k ∧ k < 503) → M'.1 k j = M.1 k j) ∧ (∀ j, j ≠ 4 → j ≠ 5 → j ≠ 6 → j ≠ 8 → j ≠ 26 → M'.1 0 j = M.1 0 j) ∧ M'.2 = M.2
def srOk (M M' : fmM) (tx : tX) (n q b : Nat) (ss : tS) : Prop := rS M' tx n q ∧ M'.1 0 5 = 0 ∧ M'.1 0 8 = M.1 0 8 ∧ (M'.1 0 26).toInt = ((b + ss.length : Nat) : Int) ∧ stRep M' b ss ∧ srFr b M M'
def srBad (M M' : fmM) (tx : tX) (n k a b : Nat) : Prop := (∃ q, rS M' tx n q) ∧ (M'.1 0 5).toInt = k ∧ (M'.1 0 6).toInt = a ∧ k ≠ 0 ∧ srFr b M M'
def srPre (M : fmM) (tx : tX) (n p o b l : Nat) : Prop := rS M tx n p ∧ M.1 0 5 = 0 ∧ (M.1 0 8).toInt = o ∧ o ≤ 6 ∧ (M.1 0 26).toInt = b ∧ 2 * b ≤ p ∧ n ≤ 150 ∧ (M.1 4 0).toInt = l ∧ l ≤ 8
theorem srFr.refl (b : Nat) (M : fmM) : srFr b M M := ⟨fun _ _ _ _ => rfl, fun _ _ _ _ _ _ => rfl, rfl⟩
theorem srFr.rd {b : Nat} {M M1 M2 : fmM} (h : srFr b M M1) (h' : rdFr M1 M2) : srFr b M M2 := ⟨fun k j a c => (h'.1 k j a).trans (h.1 k j a c), fun j a b c d e => (h'.2.1 j a b c).trans (h.2.1 j a b c d e), h'.2.2.trans h.2.2⟩
theorem srFr.trans {b b' : Nat} {M M1 M2 : fmM} (h : srFr b M M1) (h' : srFr b' M1 M2) (hb : b ≤ b') : srFr b M M2 := ⟨fun k j a c => (h'.1 k j a (by omega)).trans (h.1 k j a c), fun j a b c d e => (h'.2.1 j a b c d e).trans (h.2.1 j a b c d e), h'.2.2.trans h.2.2⟩
theorem srFr.row {b k j : Nat} {M M1 : fmM} {x : Int32} (h : srFr b M M1) (hk : 423 + b ≤ k ∧ k < 503) : srFr b M (fmI M1 k j x) := by
  refine ⟨fun k' j' a c => ?_, fun j' a b c d e => ?_, h.2.2⟩
  · rw [fmI_k _ _ (by omega)]
    exact h.1 k' j' a c
  · rw [fmI_k _ _ (by omega)]
    exact h.2.1 j' a b c d e
theorem srFr.c0 {b j : Nat} {M M1 : fmM} {x : Int32} (h : srFr b M M1) (hj : j = 4 ∨ j = 5 ∨ j = 6 ∨ j = 8 ∨ j = 26) : srFr b M (fmI M1 0 j x) := by
  refine ⟨fun k' j' a c => ?_, fun j' a b c d e => ?_, h.2.2⟩
  · rw [fmI_k _ _ a]
    exact h.1 k' j' a c
  · rw [fmI_j _ _ (by omega)]
    exact h.2.1 j' a b c d e
theorem srBad.nz {M M' : fmM} {tx : tX} {n k a b : Nat} (h : srBad M M' tx n k a b) : ¬ M'.1 0 5 = 0 := by
  intro e
  have h1 := h.2.1
  rw [e] at h1
  have e0 : (0 : Int32).toInt = 0 := by decide
  have := h.2.2.2.1
  omega
theorem srBad.row {M M1 : fmM} {tx : tX} {n kf a b k j : Nat} {x : Int32} (hk : 423 + b ≤ k ∧ k < 503) (h : srBad M M1 tx n kf a b) : srBad M (fmI M1 k j x) tx n kf a b := by
  obtain ⟨⟨q, h1⟩, h2, h3, h4, h5⟩ := h
  have e : ∀ j', (fmI M1 k j x).1 0 j' = M1.1 0 j' := fun j' => by rw [fmI_k _ _ (by omega)]
  refine ⟨⟨q, h1.of (e 2) (e 4) ?_⟩, by rw [e]; exact h2, by rw [e]; exact h3, h4, h5.row hk⟩
  rw [fmI_k _ _ (by omega)]
theorem srBad.c8 {M M1 : fmM} {tx : tX} {n kf a b : Nat} {x : Int32} (h : srBad M M1 tx n kf a b) : srBad M (fmI M1 0 8 x) tx n kf a b := by
  obtain ⟨⟨q, h1⟩, h2, h3, h4, h5⟩ := h
  exact ⟨⟨q, h1.of rfl rfl rfl⟩, h2, h3, h4, h5.c0 (by omega)⟩
theorem srBad.of {b : Nat} {M M1 M2 : fmM} {tx : tX} {n k a : Nat} (h : srFr b M M1) (hB : rdBad M1 M2 tx n k a) : srBad M M2 tx n k a b := ⟨hB.1, hB.2.1, hB.2.2.1, hB.2.2.2.1, h.rd hB.2.2.2.2⟩
theorem srPre.b {M : fmM} {tx : tX} {n p o b l : Nat} (h : srPre M tx n p o b l) : b < 80 := by
  have h1 := h.2.2.2.2.2.1
  have h2 := h.2.2.2.2.2.2.1
  have h3 := h.1.2.2.1
  omega
def rsM (M : fmM) (x k : Int32) (b : Nat) : fmM := fmI (fmI (fmI M 0 4 x) 0 26 ((fmI M 0 4 x).1 0 26 + 1)) (423 + b) 0 k
theorem rsM_fr {M : fmM} {x k : Int32} {b : Nat} (hb : b < 80) : srFr b M (rsM M x k b) := (((srFr.refl b M).c0 (Or.inl rfl)).c0 (Or.inr (Or.inr (Or.inr (Or.inr rfl))))).row ⟨Nat.le_refl _, by omega⟩
theorem rsM_S {M : fmM} {x k : Int32} {tx : tX} {n p q o b l : Nat} (h : srPre M tx n p o b l) (hx : x.toInt = q) (hq : q ≤ n) : rS (rsM M x k b) tx n q ∧ (rsM M x k b).1 0 5 = 0 := by
  have h1 : rS (fmI (fmI M 0 4 x) 0 26 ((fmI M 0 4 x).1 0 26 + 1)) tx n q := (h.1.set hx hq).of rfl rfl rfl
  refine ⟨h1.row ⟨by omega, by omega⟩, ?_⟩
  unfold rsM
  rw [fmI_k _ _ (by omega), fmI_j _ _ (by decide), fmI_j _ _ (by decide)]
  exact h.2.1
/-- one step is read -/
theorem rs_one {M M1 M2 : fmM} {x kk w : Int32} {tx : tX} {n p q o b l k v : Nat} (h : srPre M tx n p o b l) (hk : kk.toInt = k) (f1 : rdFr (rsM M x kk b) M1) (f2 : rdFr (fmI (fmI M1 (423 + b) 1 w) (423 + b) 2 ((fmI M1 (423 + b) 1 w).1 0 26)) M2) (hw : w.toInt = v) (hS : rS M2 tx n q) (hf : M2.1 0 5 = 0) : srOk M M2 tx n q b [(k, v, b + 1)] := by
  have hb := h.b
  have e26 : (rsM M x kk b).1 0 26 = M.1 0 26 + 1 := by
    unfold rsM
    rw [fmI_k _ _ (by omega), fmI_s, fmI_j _ _ (by decide)]
  have g26 : (fmI M1 (423 + b) 1 w).1 0 26 = M.1 0 26 + 1 := by
    rw [fmI_k _ _ (by omega), f1.2.1 26 (by decide) (by decide) (by decide), e26]
  have t26 : (M.1 0 26 + 1).toInt = ((b + 1 : Nat) : Int) := i32_p1 h.2.2.2.2.1 (by omega)
  refine ⟨hS, hf, ?_, ?_, fun i s hi => ?_, ((((rsM_fr hb).rd f1).row ⟨Nat.le_refl _, by omega⟩).row ⟨Nat.le_refl _, by omega⟩).rd f2⟩
  · rw [f2.2.1 8 (by decide) (by decide) (by decide), fmI_k _ _ (by omega), fmI_k _ _ (by omega), f1.2.1 8 (by decide) (by decide) (by decide)]
    unfold rsM
    rw [fmI_k _ _ (by omega), fmI_j _ _ (by decide), fmI_j _ _ (by decide)]
  · rw [f2.2.1 26 (by decide) (by decide) (by decide), fmI_k _ _ (by omega), g26]
    exact t26
  · cases i with
    | succ i => cases hi
    | zero =>
      cases hi
      rw [show 423 + b + 0 = 423 + b from rfl]
      refine ⟨?_, fun _ => ?_, ?_⟩
      · rw [f2.1 _ _ (by omega), fmI_j _ _ (by decide), fmI_j _ _ (by decide), f1.1 _ _ (by omega)]
        unfold rsM
        rw [fmI_s]
        exact hk
      · rw [f2.1 _ _ (by omega), fmI_j _ _ (by decide), fmI_s]
        exact hw
      · rw [f2.1 _ _ (by omega), fmI_s, g26]
        exact t26
/-- a week is read -/
theorem rs_wk {M M2 : fmM} {x : Int32} {tx : tX} {n p q o b l : Nat} (h : srPre M tx n p o b l) (f2 : rdFr (fmI (rsM M x 3 b) (423 + b) 2 ((rsM M x 3 b).1 0 26)) M2) (hS : rS M2 tx n q) (hf : M2.1 0 5 = 0) : srOk M M2 tx n q b [(3, 0, b + 1)] := by
  have hb := h.b
  have e26 : (rsM M x 3 b).1 0 26 = M.1 0 26 + 1 := by
    unfold rsM
    rw [fmI_k _ _ (by omega), fmI_s, fmI_j _ _ (by decide)]
  have t26 : (M.1 0 26 + 1).toInt = ((b + 1 : Nat) : Int) := i32_p1 h.2.2.2.2.1 (by omega)
  refine ⟨hS, hf, ?_, ?_, fun i s hi => ?_, ((rsM_fr hb).row ⟨Nat.le_refl _, by omega⟩).rd f2⟩
  · rw [f2.2.1 8 (by decide) (by decide) (by decide), fmI_k _ _ (by omega)]
    unfold rsM
    rw [fmI_k _ _ (by omega), fmI_j _ _ (by decide), fmI_j _ _ (by decide)]
  · rw [f2.2.1 26 (by decide) (by decide) (by decide), fmI_k _ _ (by omega), e26]
    exact t26
  · cases i with
    | succ i => cases hi
    | zero =>
      cases hi
      rw [show 423 + b + 0 = 423 + b from rfl]
      refine ⟨?_, fun h => absurd rfl h, ?_⟩
      · rw [f2.1 _ _ (by omega), fmI_j _ _ (by decide)]
        unfold rsM
        rw [fmI_s]
        exact (show (3 : Int32).toInt = 3 by decide)
      · rw [f2.1 _ _ (by omega), fmI_s, e26]
        exact t26
set_option maxRecDepth 20000 in
theorem c_stepHere {M : fmM} {Q : fmR → fmM → Prop} {tx : tX} {n p : Nat} (hS : rS M tx n p) (hf : M.1 0 5 = 0) (h_0 : ∀ x : Int32, stK (wd tx (sk tx p)) = some 0 → x.toInt = sk tx p → Q (.inl (some (.int 0))) (fmI M 0 4 x)) (h_1 : ∀ x : Int32, stK (wd tx (sk tx p)) = some 1 → x.toInt = sk tx p → Q (.inl (some (.int 1))) (fmI M 0 4 x)) (h_2 : ∀ x : Int32, stK (wd tx (sk tx p)) = some 2 → x.toInt = sk tx p → Q (.inl (some (.int 2))) (fmI M 0 4 x)) (h_3 : ∀ x : Int32, stK (wd tx (sk tx p)) = some 3 → x.toInt = sk tx p → Q (.inl (some (.int 3))) (fmI M 0 4 x)) (h_4 : ∀ x : Int32, stK (wd tx (sk tx p)) = some 4 → x.toInt = sk tx p → Q (.inl (some (.int 4))) (fmI M 0 4 x)) (hn : ∀ x : Int32, stK (wd tx (sk tx p)) = none → x.toInt = sk tx p → Q (.inl (some (.int (-1)))) (fmI M 0 4 x)) : pvGood Tm 4 qX11_stepHere [.ref 0] M Q := by
  refine pvGood_of (Nat.le_of_ble_eq_true rfl) ?_
  show pvEv Tm 4 qX11_stepHere 0 [some (.ref 0)] [] M Q
  refine pv_aloadn (pc := 0) (n := 0) 0 rfl rfl (fm_dec dtX11_stepHere 0 rfl) ?_
  refine pv_bipush (pc := 1) (v := 23) (by decide) (fm_dec dtX11_stepHere 1 rfl) ?_
  refine pv_bipush (pc := 3) (v := 18) (by decide) (fm_dec dtX11_stepHere 2 rfl) ?_
  refine pv_bipush (pc := 5) (v := 9) (by decide) (fm_dec dtX11_stepHere 3 rfl) ?_
  refine pv_bipush (pc := 7) (v := 20) (by decide) (fm_dec dtX11_stepHere 4 rfl) ?_
  refine pv_iconst (pc := 9) (v := 5) (by decide) (fm_dec dtX11_stepHere 5 rfl) ?_
  refine pv_invV5 (k := 0) (d' := 3) (pc := 10) pcv_X11_150 (by decide) rfl (Nat.le_of_ble_eq_true rfl) (by decide) (fm_dec dtX11_stepHere 6 rfl) ?_
  refine c_isWord [119, 114, 105, 116, 101] ⟨by decide, by decide, by decide⟩ hS hf (fun x10 e10 hx10 => ?_) (fun x10 e10 hx10 => ?_)
  · refine pv_then1 ?_
    refine pv_if_eq (pc := 13) 18 (by decide) (fm_dec dtX11_stepHere 7 rfl) (fun hc13 => by exfalso; revert hc13; decide) (fun _ => ?_)
    refine pv_iconst (pc := 16) (v := 0) (by decide) (fm_dec dtX11_stepHere 8 rfl) ?_
    exact pv_ireturn (pc := 17) rfl (fm_dec dtX11_stepHere 9 rfl) (by (try simp only [fmI_fmI]); exact h_0 x10 (by unfold stK; rw [if_pos e10]) hx10)
  · refine pv_then1 ?_
    refine pv_if_eq (pc := 13) 18 (by decide) (fm_dec dtX11_stepHere 7 rfl) (fun _ => ?_) (fun hc13 => by exfalso; revert hc13; decide)
    have hS1 := hS.set hx10 (hS.bl hx10).2.2.1
    refine pv_aloadn (pc := 18) (n := 0) 0 rfl rfl (fm_dec dtX11_stepHere 10 rfl) ?_
    refine pv_bipush (pc := 19) (v := 18) (by decide) (fm_dec dtX11_stepHere 11 rfl) ?_
    refine pv_iconst (pc := 21) (v := 5) (by decide) (fm_dec dtX11_stepHere 12 rfl) ?_
    refine pv_bipush (pc := 22) (v := 14) (by decide) (fm_dec dtX11_stepHere 13 rfl) ?_
    refine pv_iconst (pc := 24) (v := 5) (by decide) (fm_dec dtX11_stepHere 14 rfl) ?_
    refine pv_bipush (pc := 25) (v := 23) (by decide) (fm_dec dtX11_stepHere 15 rfl) ?_
    refine pv_invV5 (k := 0) (d' := 3) (pc := 27) pcv_X11_150 (by decide) rfl (Nat.le_of_ble_eq_true rfl) (by decide) (fm_dec dtX11_stepHere 16 rfl) ?_
    refine c_isWord [114, 101, 110, 101, 119] ⟨by decide, by decide, by decide⟩ hS1 hf (fun x27 e27 hx27 => ?_) (fun x27 e27 hx27 => ?_)
    · refine pv_then1 ?_
      refine pv_if_eq (pc := 30) 35 (by decide) (fm_dec dtX11_stepHere 17 rfl) (fun hc30 => by exfalso; revert hc30; decide) (fun _ => ?_)
      refine pv_iconst (pc := 33) (v := 1) (by decide) (fm_dec dtX11_stepHere 18 rfl) ?_
      exact pv_ireturn (pc := 34) rfl (fm_dec dtX11_stepHere 19 rfl) (by rw [sk_sk hS.2.2.2.1 hS.2.2.1] at e27 hx27; (try simp only [fmI_fmI]); exact h_1 x27 (by unfold stK; rw [if_neg e10]; rw [if_pos e27]) hx27)
    · refine pv_then1 ?_
      refine pv_if_eq (pc := 30) 35 (by decide) (fm_dec dtX11_stepHere 17 rfl) (fun _ => ?_) (fun hc30 => by exfalso; revert hc30; decide)
      rw [sk_sk hS.2.2.2.1 hS.2.2.1] at e27 hx27
      have hS2 := hS1.set hx27 hS1.2.2.1
      refine pv_aloadn (pc := 35) (n := 0) 0 rfl rfl (fm_dec dtX11_stepHere 20 rfl) ?_
      refine pv_iconst (pc := 36) (v := 4) (by decide) (fm_dec dtX11_stepHere 21 rfl) ?_
      refine pv_bipush (pc := 37) (v := 9) (by decide) (fm_dec dtX11_stepHere 22 rfl) ?_
      refine pv_iconst (pc := 39) (v := 5) (by decide) (fm_dec dtX11_stepHere 23 rfl) ?_
      refine pv_iconst (pc := 40) (v := 0) (by decide) (fm_dec dtX11_stepHere 24 rfl) ?_
      refine pv_iconst (pc := 41) (v := 0) (by decide) (fm_dec dtX11_stepHere 25 rfl) ?_
      refine pv_invV5 (k := 0) (d' := 3) (pc := 42) pcv_X11_150 (by decide) rfl (Nat.le_of_ble_eq_true rfl) (by decide) (fm_dec dtX11_stepHere 26 rfl) ?_
      refine c_isWord [100, 105, 101] ⟨by decide, by decide, by decide⟩ hS2 hf (fun x42 e42 hx42 => ?_) (fun x42 e42 hx42 => ?_)
      · refine pv_then1 ?_
        refine pv_if_eq (pc := 45) 50 (by decide) (fm_dec dtX11_stepHere 27 rfl) (fun hc45 => by exfalso; revert hc45; decide) (fun _ => ?_)
        refine pv_iconst (pc := 48) (v := 2) (by decide) (fm_dec dtX11_stepHere 28 rfl) ?_
        exact pv_ireturn (pc := 49) rfl (fm_dec dtX11_stepHere 29 rfl) (by rw [sk_sk hS.2.2.2.1 hS.2.2.1] at e42 hx42; (try simp only [fmI_fmI]); exact h_2 x42 (by unfold stK; rw [if_neg e10]; rw [if_neg e27]; rw [if_pos e42]) hx42)
      · refine pv_then1 ?_
        refine pv_if_eq (pc := 45) 50 (by decide) (fm_dec dtX11_stepHere 27 rfl) (fun _ => ?_) (fun hc45 => by exfalso; revert hc45; decide)
        rw [sk_sk hS.2.2.2.1 hS.2.2.1] at e42 hx42
        have hS3 := hS2.set hx42 hS1.2.2.1
        refine pv_aloadn (pc := 50) (n := 0) 0 rfl rfl (fm_dec dtX11_stepHere 30 rfl) ?_
        refine pv_bipush (pc := 51) (v := 23) (by decide) (fm_dec dtX11_stepHere 31 rfl) ?_
        refine pv_iconst (pc := 53) (v := 5) (by decide) (fm_dec dtX11_stepHere 32 rfl) ?_
        refine pv_iconst (pc := 54) (v := 5) (by decide) (fm_dec dtX11_stepHere 33 rfl) ?_
        refine pv_bipush (pc := 55) (v := 11) (by decide) (fm_dec dtX11_stepHere 34 rfl) ?_
        refine pv_iconst (pc := 57) (v := 0) (by decide) (fm_dec dtX11_stepHere 35 rfl) ?_
        refine pv_invV5 (k := 0) (d' := 3) (pc := 58) pcv_X11_150 (by decide) rfl (Nat.le_of_ble_eq_true rfl) (by decide) (fm_dec dtX11_stepHere 36 rfl) ?_
        refine c_isWord [119, 101, 101, 107] ⟨by decide, by decide, by decide⟩ hS3 hf (fun x58 e58 hx58 => ?_) (fun x58 e58 hx58 => ?_)
        · refine pv_then1 ?_
          refine pv_if_eq (pc := 61) 66 (by decide) (fm_dec dtX11_stepHere 37 rfl) (fun hc61 => by exfalso; revert hc61; decide) (fun _ => ?_)
          refine pv_iconst (pc := 64) (v := 3) (by decide) (fm_dec dtX11_stepHere 38 rfl) ?_
          exact pv_ireturn (pc := 65) rfl (fm_dec dtX11_stepHere 39 rfl) (by rw [sk_sk hS.2.2.2.1 hS.2.2.1] at e58 hx58; (try simp only [fmI_fmI]); exact h_3 x58 (by unfold stK; rw [if_neg e10]; rw [if_neg e27]; rw [if_neg e42]; rw [if_pos e58]) hx58)
        · refine pv_then1 ?_
          refine pv_if_eq (pc := 61) 66 (by decide) (fm_dec dtX11_stepHere 37 rfl) (fun _ => ?_) (fun hc61 => by exfalso; revert hc61; decide)
          rw [sk_sk hS.2.2.2.1 hS.2.2.1] at e58 hx58
          have hS4 := hS3.set hx58 hS1.2.2.1
          refine pv_aloadn (pc := 66) (n := 0) 0 rfl rfl (fm_dec dtX11_stepHere 40 rfl) ?_
          refine pv_iconst (pc := 67) (v := 1) (by decide) (fm_dec dtX11_stepHere 41 rfl) ?_
          refine pv_bipush (pc := 68) (v := 7) (by decide) (fm_dec dtX11_stepHere 42 rfl) ?_
          refine pv_iconst (pc := 70) (v := 1) (by decide) (fm_dec dtX11_stepHere 43 rfl) ?_
          refine pv_bipush (pc := 71) (v := 9) (by decide) (fm_dec dtX11_stepHere 44 rfl) ?_
          refine pv_bipush (pc := 73) (v := 14) (by decide) (fm_dec dtX11_stepHere 45 rfl) ?_
          refine pv_invV5 (k := 0) (d' := 3) (pc := 75) pcv_X11_150 (by decide) rfl (Nat.le_of_ble_eq_true rfl) (by decide) (fm_dec dtX11_stepHere 46 rfl) ?_
          refine c_isWord [97, 103, 97, 105, 110] ⟨by decide, by decide, by decide⟩ hS4 hf (fun x75 e75 hx75 => ?_) (fun x75 e75 hx75 => ?_)
          · refine pv_then1 ?_
            refine pv_if_eq (pc := 78) 85 (by decide) (fm_dec dtX11_stepHere 47 rfl) (fun hc78 => by exfalso; revert hc78; decide) (fun _ => ?_)
            refine pv_iconst (pc := 81) (v := 4) (by decide) (fm_dec dtX11_stepHere 48 rfl) ?_
            refine pv_goto (pc := 82) 86 (by decide) (fm_dec dtX11_stepHere 49 rfl) ?_
            exact pv_ireturn (pc := 86) rfl (fm_dec dtX11_stepHere 51 rfl) (by rw [sk_sk hS.2.2.2.1 hS.2.2.1] at e75 hx75; (try simp only [fmI_fmI]); first | exact h_4 x75 (by unfold stK; rw [if_neg e10]; rw [if_neg e27]; rw [if_neg e42]; rw [if_neg e58]; rw [if_pos e75]) hx75 | exact hn x75 (by unfold stK; rw [if_neg e10, if_neg e27, if_neg e42, if_neg e58, if_neg e75]) hx75)
          · refine pv_then1 ?_
            refine pv_if_eq (pc := 78) 85 (by decide) (fm_dec dtX11_stepHere 47 rfl) (fun _ => ?_) (fun hc78 => by exfalso; revert hc78; decide)
            refine pv_iconst (pc := 85) (v := (-1)) (by decide) (fm_dec dtX11_stepHere 50 rfl) ?_
            exact pv_ireturn (pc := 86) rfl (fm_dec dtX11_stepHere 51 rfl) (by rw [sk_sk hS.2.2.2.1 hS.2.2.1] at e75 hx75; (try simp only [fmI_fmI]); first | exact h_4 x75 (by unfold stK; rw [if_neg e10]; rw [if_neg e27]; rw [if_neg e42]; rw [if_neg e58]; rw [if_pos e75]) hx75 | exact hn x75 (by unfold stK; rw [if_neg e10, if_neg e27, if_neg e42, if_neg e58, if_neg e75]) hx75)
set_option maxRecDepth 20000 in
theorem rs5_0 {Q : fmR → fmM → Prop} {M : fmM} {tx : tX} {n a o b l : Nat} {v2 : Option Value} (hP : srPre M tx n a o b l) (hok : ∀ (M' : fmM) (ss : tS) (q' : Nat), spSi tx l 0 b (sp tW tx a) = .inr (ss, q') → srOk M M' tx n q' b ss → Q (.inl none) M') (hbad : ∀ (M' : fmM) (k a' : Nat), spSi tx l 0 b (sp tW tx a) = .inl (k, a') → srBad M M' tx n k a' b → Q (.inl none) M') : pvEv Tm (5 + (6 - o)) qX11_readsStep 5 [some (.ref 0), some (.int 0), v2] [] M Q := by
  refine pv_iloadn (pc := 5) (n := 1) 1 rfl rfl (fm_dec dtX11_readsStep 3 rfl) ?_
  refine pv_iconst (pc := 6) (v := (-1)) (by decide) (fm_dec dtX11_readsStep 4 rfl) ?_
  refine pv_icmp_ne (pc := 7) 19 (by decide) (fm_dec dtX11_readsStep 5 rfl) (fun _ => ?_) (fun hc7 => by exfalso; revert hc7; decide)
  refine pv_iloadn (pc := 19) (n := 1) 1 rfl rfl (fm_dec dtX11_readsStep 11 rfl) ?_
  refine pv_iconst (pc := 20) (v := 4) (by decide) (fm_dec dtX11_readsStep 12 rfl) ?_
  refine pv_icmp_ne (pc := 21) 32 (by decide) (fm_dec dtX11_readsStep 13 rfl) (fun _ => ?_) (fun hc21 => by exfalso; revert hc21; decide)
  refine pv_aloadn (pc := 32) (n := 0) 0 rfl rfl (fm_dec dtX11_readsStep 18 rfl) ?_
  refine pv_getI (k := 0) (j := 5) (ci := 11) (pc := 33) pfl_X11_117 (by decide) rfl (by decide) (fm_dec dtX11_readsStep 19 rfl) ?_
  refine pv_if_eq (pc := 36) 40 (by decide) (fm_dec dtX11_readsStep 20 rfl) (fun _ => ?_) (fun hc36 => by exfalso; exact hc36 hP.2.1)
  refine pv_aloadn (pc := 40) (n := 0) 0 rfl rfl (fm_dec dtX11_readsStep 22 rfl) ?_
  refine pv_invV0 (k := 0) (d' := 1) (pc := 41) pcv_X11_154 (by decide) rfl (Nat.le_of_ble_eq_true rfl) (by omega) (fm_dec dtX11_readsStep 23 rfl) ?_
  refine c_skipWord hP.1 (fun x40 hx40 => ?_)
  refine pv_then0 ?_
  have hb80 := hP.b
  have hw40 := sp_le (p := a) tW_1 hP.1.2.2.2.1 hP.1.2.2.1
  refine pv_aloadn (pc := 44) (n := 0) 0 rfl rfl (fm_dec dtX11_readsStep 24 rfl) ?_
  refine pv_getR (k := 0) (j := 25) (ci := 11) (pc := 45) 24 rfl (by decide) pfl_X11_58 (by decide) rfl (by decide) (fm_dec dtX11_readsStep 25 rfl) ?_
  refine pv_aloadn (pc := 48) (n := 0) 0 rfl rfl (fm_dec dtX11_readsStep 26 rfl) ?_
  refine pv_getI (k := 0) (j := 26) (ci := 11) (pc := 49) pfl_X11_250 (by decide) rfl (by decide) (fm_dec dtX11_readsStep 27 rfl) ?_
  refine pv_aald (k := 24) (n := 80) (r := (423 + b)) (pc := 52) (by decide) (Or.inr (Or.inr rfl)) rfl (rw_step.inb hP.2.2.2.2.1 hb80) (rw_step.at hP.2.2.2.2.1 hb80) (rw_step.2.2.2 _ hb80).2.1 (fm_dec dtX11_readsStep 28 rfl) ?_
  refine pv_astoren (pc := 53) (n := 2) 2 rfl (by decide) rfl (fm_dec dtX11_readsStep 29 rfl) ?_
  dsimp only [List.set_cons_zero, List.set_cons_succ]
  refine pv_aloadn (pc := 54) (n := 0) 0 rfl rfl (fm_dec dtX11_readsStep 30 rfl) ?_
  refine pv_dup (pc := 55) rfl (fm_dec dtX11_readsStep 31 rfl) ?_
  refine pv_getI (k := 0) (j := 26) (ci := 11) (pc := 56) pfl_X11_250 (by decide) rfl (by decide) (fm_dec dtX11_readsStep 32 rfl) ?_
  refine pv_iconst (pc := 59) (v := 1) (by decide) (fm_dec dtX11_readsStep 33 rfl) ?_
  refine pv_iadd (pc := 60) (fm_dec dtX11_readsStep 34 rfl) ?_
  refine pv_putI (k := 0) (j := 26) (ci := 11) (pc := 61) pfl_X11_250 (by decide) rfl (by decide) (fm_dec dtX11_readsStep 35 rfl) ?_
  refine pv_aloadn (pc := 64) (n := 2) 2 rfl rfl (fm_dec dtX11_readsStep 36 rfl) ?_
  refine pv_iconst (pc := 65) (v := 0) (by decide) (fm_dec dtX11_readsStep 37 rfl) ?_
  refine pv_iloadn (pc := 66) (n := 1) 1 rfl rfl (fm_dec dtX11_readsStep 38 rfl) ?_
  refine pv_iast (k := (423 + b)) (n := 3) (pc := 67) (rw_step.2.2.2 _ hb80).2.2.1 (rw_step.2.2.2 _ hb80).2.2.2.1 (rw_step.2.2.2 _ hb80).2.2.2.2 (fm_inl (by decide)) (fm_dec dtX11_readsStep 39 rfl) ?_
  refine pv_iloadn (pc := 68) (n := 1) 1 rfl rfl (fm_dec dtX11_readsStep 40 rfl) ?_
  refine pv_iconst (pc := 69) (v := 3) (by decide) (fm_dec dtX11_readsStep 41 rfl) ?_
  refine pv_icmp_ge (pc := 70) 89 (by decide) (fm_dec dtX11_readsStep 42 rfl) (fun hc70 => by exfalso; revert hc70; decide) (fun _ => ?_)
  refine pv_aloadn (pc := 73) (n := 2) 2 rfl rfl (fm_dec dtX11_readsStep 43 rfl) ?_
  refine pv_iconst (pc := 74) (v := 1) (by decide) (fm_dec dtX11_readsStep 44 rfl) ?_
  refine pv_aloadn (pc := 75) (n := 0) 0 rfl rfl (fm_dec dtX11_readsStep 45 rfl) ?_
  refine pv_iconst (pc := 76) (v := 0) (by decide) (fm_dec dtX11_readsStep 46 rfl) ?_
  refine pv_aloadn (pc := 77) (n := 0) 0 rfl rfl (fm_dec dtX11_readsStep 47 rfl) ?_
  refine pv_getR (k := 0) (j := 12) (ci := 11) (pc := 78) 4 rfl (by decide) pfl_X11_23 (by decide) rfl (by decide) (fm_dec dtX11_readsStep 48 rfl) ?_
  refine pv_iconst (pc := 81) (v := 0) (by decide) (fm_dec dtX11_readsStep 49 rfl) ?_
  refine pv_iald (k := 4) (n := 6) (pc := 82) (by decide) rfl rfl (fm_inl (by decide)) (fm_dec dtX11_readsStep 50 rfl) ?_
  refine pv_iconst (pc := 83) (v := 1) (by decide) (fm_dec dtX11_readsStep 51 rfl) ?_
  refine pv_isub (pc := 84) (fm_dec dtX11_readsStep 52 rfl) ?_
  refine pv_invV2 (k := 0) (d' := 2) (pc := 85) pcv_X11_163 (by decide) rfl (Nat.le_of_ble_eq_true rfl) (by omega) (fm_dec dtX11_readsStep 53 rfl) ?_
  refine r_num (M := rsM M x40 0 b) (tx := tx) (n := n) (p := sp tW tx a) 0 ((l : Int) - 1) ⟨by decide, (by have h9 : (rsM M x40 0 b).1 4 0 = M.1 4 0 := (by unfold rsM; rw [fmI_k _ _ (by omega), fmI_k _ _ (by decide), fmI_k _ _ (by decide)]); exact (congrArg (fun y => (y - 1 : Int32).toInt) h9).trans (lh_hi hP.2.2.2.2.2.2.2.1 hP.2.2.2.2.2.2.2.2)), (by have := hP.2.2.2.2.2.2.2.2; omega)⟩ (rsM_S hP hx40 hw40).1 (rsM_S hP hx40 hw40).2 (fun M85 v85 q85 w85 e85 hw85 k85 => ?_) (fun Mb kb ab eb hB => ?_)  
  · refine pv_then1 ?_
    refine pv_iast (k := (423 + b)) (n := 3) (pc := 88) (rw_step.2.2.2 _ hb80).2.2.1 (rw_step.2.2.2 _ hb80).2.2.2.1 (rw_step.2.2.2 _ hb80).2.2.2.2 (fm_inl (by decide)) (fm_dec dtX11_readsStep 54 rfl) ?_
    refine pv_iloadn (pc := 89) (n := 1) 1 rfl rfl (fm_dec dtX11_readsStep 55 rfl) ?_
    refine pv_iconst (pc := 90) (v := 4) (by decide) (fm_dec dtX11_readsStep 56 rfl) ?_
    refine pv_icmp_ne (pc := 91) 161 (by decide) (fm_dec dtX11_readsStep 57 rfl) (fun _ => ?_) (fun hc91 => by exfalso; revert hc91; decide)
    refine pv_aloadn (pc := 161) (n := 2) 2 rfl rfl (fm_dec dtX11_readsStep 93 rfl) ?_
    refine pv_iconst (pc := 162) (v := 2) (by decide) (fm_dec dtX11_readsStep 94 rfl) ?_
    refine pv_aloadn (pc := 163) (n := 0) 0 rfl rfl (fm_dec dtX11_readsStep 95 rfl) ?_
    refine pv_getI (k := 0) (j := 26) (ci := 11) (pc := 164) pfl_X11_250 (by decide) rfl (by decide) (fm_dec dtX11_readsStep 96 rfl) ?_
    refine pv_iast (k := (423 + b)) (n := 3) (pc := 167) (rw_step.2.2.2 _ hb80).2.2.1 (rw_step.2.2.2 _ hb80).2.2.2.1 (rw_step.2.2.2 _ hb80).2.2.2.2 (fm_inl (by decide)) (fm_dec dtX11_readsStep 97 rfl) ?_
    refine pv_aloadn (pc := 168) (n := 0) 0 rfl rfl (fm_dec dtX11_readsStep 98 rfl) ?_
    refine pv_bipush (pc := 169) (v := 59) (by decide) (fm_dec dtX11_readsStep 99 rfl) ?_
    refine pv_invV1 (k := 0) (d' := 2) (pc := 171) pcv_X11_173 (by decide) rfl (Nat.le_of_ble_eq_true rfl) (by omega) (fm_dec dtX11_readsStep 100 rfl) ?_
    refine r_sign (tx := tx) (n := n) (p := q85) 59 ⟨by decide, by decide⟩ (by (repeat refine rS.row ?_ ⟨by omega, by omega⟩); exact k85.1) (by (repeat refine f0.row ?_ (by omega)); exact k85.2.1) (fun M171 q171 e171 k171 => ?_) (fun Mb kb ab eb hB => ?_)  
    · refine pv_then0 ?_
      exact pv_return (pc := 174) rfl (fm_dec dtX11_readsStep 101 rfl) (hok _ _ _ (by simp only [spSi, spBind, e85, e171]) (rs_one (k := 0) hP (by decide) k85.2.2 k171.2.2 hw85 k171.1 k171.2.1))
    · refine pv_then0 ?_
      have hB9 := srBad.of ((((rsM_fr hb80).rd k85.2.2).row ⟨Nat.le_refl _, by omega⟩).row ⟨Nat.le_refl _, by omega⟩) hB
      exact pv_return (pc := 174) rfl (fm_dec dtX11_readsStep 101 rfl) (hbad _ kb ab (by simp only [spSi, spBind, e85, eb]) hB9)
  · refine pv_then1 ?_
    have hB9 := srBad.of (rsM_fr hb80) hB
    refine pv_iast (k := (423 + b)) (n := 3) (pc := 88) (rw_step.2.2.2 _ hb80).2.2.1 (rw_step.2.2.2 _ hb80).2.2.2.1 (rw_step.2.2.2 _ hb80).2.2.2.2 (fm_inl (by decide)) (fm_dec dtX11_readsStep 54 rfl) ?_
    refine pv_iloadn (pc := 89) (n := 1) 1 rfl rfl (fm_dec dtX11_readsStep 55 rfl) ?_
    refine pv_iconst (pc := 90) (v := 4) (by decide) (fm_dec dtX11_readsStep 56 rfl) ?_
    refine pv_icmp_ne (pc := 91) 161 (by decide) (fm_dec dtX11_readsStep 57 rfl) (fun _ => ?_) (fun hc91 => by exfalso; revert hc91; decide)
    refine pv_aloadn (pc := 161) (n := 2) 2 rfl rfl (fm_dec dtX11_readsStep 93 rfl) ?_
    refine pv_iconst (pc := 162) (v := 2) (by decide) (fm_dec dtX11_readsStep 94 rfl) ?_
    refine pv_aloadn (pc := 163) (n := 0) 0 rfl rfl (fm_dec dtX11_readsStep 95 rfl) ?_
    refine pv_getI (k := 0) (j := 26) (ci := 11) (pc := 164) pfl_X11_250 (by decide) rfl (by decide) (fm_dec dtX11_readsStep 96 rfl) ?_
    refine pv_iast (k := (423 + b)) (n := 3) (pc := 167) (rw_step.2.2.2 _ hb80).2.2.1 (rw_step.2.2.2 _ hb80).2.2.2.1 (rw_step.2.2.2 _ hb80).2.2.2.2 (fm_inl (by decide)) (fm_dec dtX11_readsStep 97 rfl) ?_
    refine pv_aloadn (pc := 168) (n := 0) 0 rfl rfl (fm_dec dtX11_readsStep 98 rfl) ?_
    refine pv_bipush (pc := 169) (v := 59) (by decide) (fm_dec dtX11_readsStep 99 rfl) ?_
    refine pv_invV1 (k := 0) (d' := 2) (pc := 171) pcv_X11_173 (by decide) rfl (Nat.le_of_ble_eq_true rfl) (by omega) (fm_dec dtX11_readsStep 100 rfl) ?_
    refine c_sign1 (srBad.nz (M := M) (tx := tx) (n := n) (k := kb) (a := ab) (b := b) (by (repeat refine srBad.row ⟨by omega, by omega⟩ ?_); exact hB9)) ?_
    refine pv_then0 ?_
    exact pv_return (pc := 174) rfl (fm_dec dtX11_readsStep 101 rfl) (hbad _ kb ab (by simp only [spSi, spBind, eb]) (by (repeat refine srBad.row ⟨by omega, by omega⟩ ?_); exact hB9))
set_option maxRecDepth 20000 in
theorem rs5_1 {Q : fmR → fmM → Prop} {M : fmM} {tx : tX} {n a o b l : Nat} {v2 : Option Value} (hP : srPre M tx n a o b l) (hok : ∀ (M' : fmM) (ss : tS) (q' : Nat), spSi tx l 1 b (sp tW tx a) = .inr (ss, q') → srOk M M' tx n q' b ss → Q (.inl none) M') (hbad : ∀ (M' : fmM) (k a' : Nat), spSi tx l 1 b (sp tW tx a) = .inl (k, a') → srBad M M' tx n k a' b → Q (.inl none) M') : pvEv Tm (5 + (6 - o)) qX11_readsStep 5 [some (.ref 0), some (.int 1), v2] [] M Q := by
  refine pv_iloadn (pc := 5) (n := 1) 1 rfl rfl (fm_dec dtX11_readsStep 3 rfl) ?_
  refine pv_iconst (pc := 6) (v := (-1)) (by decide) (fm_dec dtX11_readsStep 4 rfl) ?_
  refine pv_icmp_ne (pc := 7) 19 (by decide) (fm_dec dtX11_readsStep 5 rfl) (fun _ => ?_) (fun hc7 => by exfalso; revert hc7; decide)
  refine pv_iloadn (pc := 19) (n := 1) 1 rfl rfl (fm_dec dtX11_readsStep 11 rfl) ?_
  refine pv_iconst (pc := 20) (v := 4) (by decide) (fm_dec dtX11_readsStep 12 rfl) ?_
  refine pv_icmp_ne (pc := 21) 32 (by decide) (fm_dec dtX11_readsStep 13 rfl) (fun _ => ?_) (fun hc21 => by exfalso; revert hc21; decide)
  refine pv_aloadn (pc := 32) (n := 0) 0 rfl rfl (fm_dec dtX11_readsStep 18 rfl) ?_
  refine pv_getI (k := 0) (j := 5) (ci := 11) (pc := 33) pfl_X11_117 (by decide) rfl (by decide) (fm_dec dtX11_readsStep 19 rfl) ?_
  refine pv_if_eq (pc := 36) 40 (by decide) (fm_dec dtX11_readsStep 20 rfl) (fun _ => ?_) (fun hc36 => by exfalso; exact hc36 hP.2.1)
  refine pv_aloadn (pc := 40) (n := 0) 0 rfl rfl (fm_dec dtX11_readsStep 22 rfl) ?_
  refine pv_invV0 (k := 0) (d' := 1) (pc := 41) pcv_X11_154 (by decide) rfl (Nat.le_of_ble_eq_true rfl) (by omega) (fm_dec dtX11_readsStep 23 rfl) ?_
  refine c_skipWord hP.1 (fun x40 hx40 => ?_)
  refine pv_then0 ?_
  have hb80 := hP.b
  have hw40 := sp_le (p := a) tW_1 hP.1.2.2.2.1 hP.1.2.2.1
  refine pv_aloadn (pc := 44) (n := 0) 0 rfl rfl (fm_dec dtX11_readsStep 24 rfl) ?_
  refine pv_getR (k := 0) (j := 25) (ci := 11) (pc := 45) 24 rfl (by decide) pfl_X11_58 (by decide) rfl (by decide) (fm_dec dtX11_readsStep 25 rfl) ?_
  refine pv_aloadn (pc := 48) (n := 0) 0 rfl rfl (fm_dec dtX11_readsStep 26 rfl) ?_
  refine pv_getI (k := 0) (j := 26) (ci := 11) (pc := 49) pfl_X11_250 (by decide) rfl (by decide) (fm_dec dtX11_readsStep 27 rfl) ?_
  refine pv_aald (k := 24) (n := 80) (r := (423 + b)) (pc := 52) (by decide) (Or.inr (Or.inr rfl)) rfl (rw_step.inb hP.2.2.2.2.1 hb80) (rw_step.at hP.2.2.2.2.1 hb80) (rw_step.2.2.2 _ hb80).2.1 (fm_dec dtX11_readsStep 28 rfl) ?_
  refine pv_astoren (pc := 53) (n := 2) 2 rfl (by decide) rfl (fm_dec dtX11_readsStep 29 rfl) ?_
  dsimp only [List.set_cons_zero, List.set_cons_succ]
  refine pv_aloadn (pc := 54) (n := 0) 0 rfl rfl (fm_dec dtX11_readsStep 30 rfl) ?_
  refine pv_dup (pc := 55) rfl (fm_dec dtX11_readsStep 31 rfl) ?_
  refine pv_getI (k := 0) (j := 26) (ci := 11) (pc := 56) pfl_X11_250 (by decide) rfl (by decide) (fm_dec dtX11_readsStep 32 rfl) ?_
  refine pv_iconst (pc := 59) (v := 1) (by decide) (fm_dec dtX11_readsStep 33 rfl) ?_
  refine pv_iadd (pc := 60) (fm_dec dtX11_readsStep 34 rfl) ?_
  refine pv_putI (k := 0) (j := 26) (ci := 11) (pc := 61) pfl_X11_250 (by decide) rfl (by decide) (fm_dec dtX11_readsStep 35 rfl) ?_
  refine pv_aloadn (pc := 64) (n := 2) 2 rfl rfl (fm_dec dtX11_readsStep 36 rfl) ?_
  refine pv_iconst (pc := 65) (v := 0) (by decide) (fm_dec dtX11_readsStep 37 rfl) ?_
  refine pv_iloadn (pc := 66) (n := 1) 1 rfl rfl (fm_dec dtX11_readsStep 38 rfl) ?_
  refine pv_iast (k := (423 + b)) (n := 3) (pc := 67) (rw_step.2.2.2 _ hb80).2.2.1 (rw_step.2.2.2 _ hb80).2.2.2.1 (rw_step.2.2.2 _ hb80).2.2.2.2 (fm_inl (by decide)) (fm_dec dtX11_readsStep 39 rfl) ?_
  refine pv_iloadn (pc := 68) (n := 1) 1 rfl rfl (fm_dec dtX11_readsStep 40 rfl) ?_
  refine pv_iconst (pc := 69) (v := 3) (by decide) (fm_dec dtX11_readsStep 41 rfl) ?_
  refine pv_icmp_ge (pc := 70) 89 (by decide) (fm_dec dtX11_readsStep 42 rfl) (fun hc70 => by exfalso; revert hc70; decide) (fun _ => ?_)
  refine pv_aloadn (pc := 73) (n := 2) 2 rfl rfl (fm_dec dtX11_readsStep 43 rfl) ?_
  refine pv_iconst (pc := 74) (v := 1) (by decide) (fm_dec dtX11_readsStep 44 rfl) ?_
  refine pv_aloadn (pc := 75) (n := 0) 0 rfl rfl (fm_dec dtX11_readsStep 45 rfl) ?_
  refine pv_iconst (pc := 76) (v := 0) (by decide) (fm_dec dtX11_readsStep 46 rfl) ?_
  refine pv_aloadn (pc := 77) (n := 0) 0 rfl rfl (fm_dec dtX11_readsStep 47 rfl) ?_
  refine pv_getR (k := 0) (j := 12) (ci := 11) (pc := 78) 4 rfl (by decide) pfl_X11_23 (by decide) rfl (by decide) (fm_dec dtX11_readsStep 48 rfl) ?_
  refine pv_iconst (pc := 81) (v := 0) (by decide) (fm_dec dtX11_readsStep 49 rfl) ?_
  refine pv_iald (k := 4) (n := 6) (pc := 82) (by decide) rfl rfl (fm_inl (by decide)) (fm_dec dtX11_readsStep 50 rfl) ?_
  refine pv_iconst (pc := 83) (v := 1) (by decide) (fm_dec dtX11_readsStep 51 rfl) ?_
  refine pv_isub (pc := 84) (fm_dec dtX11_readsStep 52 rfl) ?_
  refine pv_invV2 (k := 0) (d' := 2) (pc := 85) pcv_X11_163 (by decide) rfl (Nat.le_of_ble_eq_true rfl) (by omega) (fm_dec dtX11_readsStep 53 rfl) ?_
  refine r_num (M := rsM M x40 1 b) (tx := tx) (n := n) (p := sp tW tx a) 0 ((l : Int) - 1) ⟨by decide, (by have h9 : (rsM M x40 1 b).1 4 0 = M.1 4 0 := (by unfold rsM; rw [fmI_k _ _ (by omega), fmI_k _ _ (by decide), fmI_k _ _ (by decide)]); exact (congrArg (fun y => (y - 1 : Int32).toInt) h9).trans (lh_hi hP.2.2.2.2.2.2.2.1 hP.2.2.2.2.2.2.2.2)), (by have := hP.2.2.2.2.2.2.2.2; omega)⟩ (rsM_S hP hx40 hw40).1 (rsM_S hP hx40 hw40).2 (fun M85 v85 q85 w85 e85 hw85 k85 => ?_) (fun Mb kb ab eb hB => ?_)  
  · refine pv_then1 ?_
    refine pv_iast (k := (423 + b)) (n := 3) (pc := 88) (rw_step.2.2.2 _ hb80).2.2.1 (rw_step.2.2.2 _ hb80).2.2.2.1 (rw_step.2.2.2 _ hb80).2.2.2.2 (fm_inl (by decide)) (fm_dec dtX11_readsStep 54 rfl) ?_
    refine pv_iloadn (pc := 89) (n := 1) 1 rfl rfl (fm_dec dtX11_readsStep 55 rfl) ?_
    refine pv_iconst (pc := 90) (v := 4) (by decide) (fm_dec dtX11_readsStep 56 rfl) ?_
    refine pv_icmp_ne (pc := 91) 161 (by decide) (fm_dec dtX11_readsStep 57 rfl) (fun _ => ?_) (fun hc91 => by exfalso; revert hc91; decide)
    refine pv_aloadn (pc := 161) (n := 2) 2 rfl rfl (fm_dec dtX11_readsStep 93 rfl) ?_
    refine pv_iconst (pc := 162) (v := 2) (by decide) (fm_dec dtX11_readsStep 94 rfl) ?_
    refine pv_aloadn (pc := 163) (n := 0) 0 rfl rfl (fm_dec dtX11_readsStep 95 rfl) ?_
    refine pv_getI (k := 0) (j := 26) (ci := 11) (pc := 164) pfl_X11_250 (by decide) rfl (by decide) (fm_dec dtX11_readsStep 96 rfl) ?_
    refine pv_iast (k := (423 + b)) (n := 3) (pc := 167) (rw_step.2.2.2 _ hb80).2.2.1 (rw_step.2.2.2 _ hb80).2.2.2.1 (rw_step.2.2.2 _ hb80).2.2.2.2 (fm_inl (by decide)) (fm_dec dtX11_readsStep 97 rfl) ?_
    refine pv_aloadn (pc := 168) (n := 0) 0 rfl rfl (fm_dec dtX11_readsStep 98 rfl) ?_
    refine pv_bipush (pc := 169) (v := 59) (by decide) (fm_dec dtX11_readsStep 99 rfl) ?_
    refine pv_invV1 (k := 0) (d' := 2) (pc := 171) pcv_X11_173 (by decide) rfl (Nat.le_of_ble_eq_true rfl) (by omega) (fm_dec dtX11_readsStep 100 rfl) ?_
    refine r_sign (tx := tx) (n := n) (p := q85) 59 ⟨by decide, by decide⟩ (by (repeat refine rS.row ?_ ⟨by omega, by omega⟩); exact k85.1) (by (repeat refine f0.row ?_ (by omega)); exact k85.2.1) (fun M171 q171 e171 k171 => ?_) (fun Mb kb ab eb hB => ?_)  
    · refine pv_then0 ?_
      exact pv_return (pc := 174) rfl (fm_dec dtX11_readsStep 101 rfl) (hok _ _ _ (by simp only [spSi, spBind, e85, e171]) (rs_one (k := 1) hP (by decide) k85.2.2 k171.2.2 hw85 k171.1 k171.2.1))
    · refine pv_then0 ?_
      have hB9 := srBad.of ((((rsM_fr hb80).rd k85.2.2).row ⟨Nat.le_refl _, by omega⟩).row ⟨Nat.le_refl _, by omega⟩) hB
      exact pv_return (pc := 174) rfl (fm_dec dtX11_readsStep 101 rfl) (hbad _ kb ab (by simp only [spSi, spBind, e85, eb]) hB9)
  · refine pv_then1 ?_
    have hB9 := srBad.of (rsM_fr hb80) hB
    refine pv_iast (k := (423 + b)) (n := 3) (pc := 88) (rw_step.2.2.2 _ hb80).2.2.1 (rw_step.2.2.2 _ hb80).2.2.2.1 (rw_step.2.2.2 _ hb80).2.2.2.2 (fm_inl (by decide)) (fm_dec dtX11_readsStep 54 rfl) ?_
    refine pv_iloadn (pc := 89) (n := 1) 1 rfl rfl (fm_dec dtX11_readsStep 55 rfl) ?_
    refine pv_iconst (pc := 90) (v := 4) (by decide) (fm_dec dtX11_readsStep 56 rfl) ?_
    refine pv_icmp_ne (pc := 91) 161 (by decide) (fm_dec dtX11_readsStep 57 rfl) (fun _ => ?_) (fun hc91 => by exfalso; revert hc91; decide)
    refine pv_aloadn (pc := 161) (n := 2) 2 rfl rfl (fm_dec dtX11_readsStep 93 rfl) ?_
    refine pv_iconst (pc := 162) (v := 2) (by decide) (fm_dec dtX11_readsStep 94 rfl) ?_
    refine pv_aloadn (pc := 163) (n := 0) 0 rfl rfl (fm_dec dtX11_readsStep 95 rfl) ?_
    refine pv_getI (k := 0) (j := 26) (ci := 11) (pc := 164) pfl_X11_250 (by decide) rfl (by decide) (fm_dec dtX11_readsStep 96 rfl) ?_
    refine pv_iast (k := (423 + b)) (n := 3) (pc := 167) (rw_step.2.2.2 _ hb80).2.2.1 (rw_step.2.2.2 _ hb80).2.2.2.1 (rw_step.2.2.2 _ hb80).2.2.2.2 (fm_inl (by decide)) (fm_dec dtX11_readsStep 97 rfl) ?_
    refine pv_aloadn (pc := 168) (n := 0) 0 rfl rfl (fm_dec dtX11_readsStep 98 rfl) ?_
    refine pv_bipush (pc := 169) (v := 59) (by decide) (fm_dec dtX11_readsStep 99 rfl) ?_
    refine pv_invV1 (k := 0) (d' := 2) (pc := 171) pcv_X11_173 (by decide) rfl (Nat.le_of_ble_eq_true rfl) (by omega) (fm_dec dtX11_readsStep 100 rfl) ?_
    refine c_sign1 (srBad.nz (M := M) (tx := tx) (n := n) (k := kb) (a := ab) (b := b) (by (repeat refine srBad.row ⟨by omega, by omega⟩ ?_); exact hB9)) ?_
    refine pv_then0 ?_
    exact pv_return (pc := 174) rfl (fm_dec dtX11_readsStep 101 rfl) (hbad _ kb ab (by simp only [spSi, spBind, eb]) (by (repeat refine srBad.row ⟨by omega, by omega⟩ ?_); exact hB9))
set_option maxRecDepth 20000 in
theorem rs5_2 {Q : fmR → fmM → Prop} {M : fmM} {tx : tX} {n a o b l : Nat} {v2 : Option Value} (hP : srPre M tx n a o b l) (hok : ∀ (M' : fmM) (ss : tS) (q' : Nat), spSi tx l 2 b (sp tW tx a) = .inr (ss, q') → srOk M M' tx n q' b ss → Q (.inl none) M') (hbad : ∀ (M' : fmM) (k a' : Nat), spSi tx l 2 b (sp tW tx a) = .inl (k, a') → srBad M M' tx n k a' b → Q (.inl none) M') : pvEv Tm (5 + (6 - o)) qX11_readsStep 5 [some (.ref 0), some (.int 2), v2] [] M Q := by
  refine pv_iloadn (pc := 5) (n := 1) 1 rfl rfl (fm_dec dtX11_readsStep 3 rfl) ?_
  refine pv_iconst (pc := 6) (v := (-1)) (by decide) (fm_dec dtX11_readsStep 4 rfl) ?_
  refine pv_icmp_ne (pc := 7) 19 (by decide) (fm_dec dtX11_readsStep 5 rfl) (fun _ => ?_) (fun hc7 => by exfalso; revert hc7; decide)
  refine pv_iloadn (pc := 19) (n := 1) 1 rfl rfl (fm_dec dtX11_readsStep 11 rfl) ?_
  refine pv_iconst (pc := 20) (v := 4) (by decide) (fm_dec dtX11_readsStep 12 rfl) ?_
  refine pv_icmp_ne (pc := 21) 32 (by decide) (fm_dec dtX11_readsStep 13 rfl) (fun _ => ?_) (fun hc21 => by exfalso; revert hc21; decide)
  refine pv_aloadn (pc := 32) (n := 0) 0 rfl rfl (fm_dec dtX11_readsStep 18 rfl) ?_
  refine pv_getI (k := 0) (j := 5) (ci := 11) (pc := 33) pfl_X11_117 (by decide) rfl (by decide) (fm_dec dtX11_readsStep 19 rfl) ?_
  refine pv_if_eq (pc := 36) 40 (by decide) (fm_dec dtX11_readsStep 20 rfl) (fun _ => ?_) (fun hc36 => by exfalso; exact hc36 hP.2.1)
  refine pv_aloadn (pc := 40) (n := 0) 0 rfl rfl (fm_dec dtX11_readsStep 22 rfl) ?_
  refine pv_invV0 (k := 0) (d' := 1) (pc := 41) pcv_X11_154 (by decide) rfl (Nat.le_of_ble_eq_true rfl) (by omega) (fm_dec dtX11_readsStep 23 rfl) ?_
  refine c_skipWord hP.1 (fun x40 hx40 => ?_)
  refine pv_then0 ?_
  have hb80 := hP.b
  have hw40 := sp_le (p := a) tW_1 hP.1.2.2.2.1 hP.1.2.2.1
  refine pv_aloadn (pc := 44) (n := 0) 0 rfl rfl (fm_dec dtX11_readsStep 24 rfl) ?_
  refine pv_getR (k := 0) (j := 25) (ci := 11) (pc := 45) 24 rfl (by decide) pfl_X11_58 (by decide) rfl (by decide) (fm_dec dtX11_readsStep 25 rfl) ?_
  refine pv_aloadn (pc := 48) (n := 0) 0 rfl rfl (fm_dec dtX11_readsStep 26 rfl) ?_
  refine pv_getI (k := 0) (j := 26) (ci := 11) (pc := 49) pfl_X11_250 (by decide) rfl (by decide) (fm_dec dtX11_readsStep 27 rfl) ?_
  refine pv_aald (k := 24) (n := 80) (r := (423 + b)) (pc := 52) (by decide) (Or.inr (Or.inr rfl)) rfl (rw_step.inb hP.2.2.2.2.1 hb80) (rw_step.at hP.2.2.2.2.1 hb80) (rw_step.2.2.2 _ hb80).2.1 (fm_dec dtX11_readsStep 28 rfl) ?_
  refine pv_astoren (pc := 53) (n := 2) 2 rfl (by decide) rfl (fm_dec dtX11_readsStep 29 rfl) ?_
  dsimp only [List.set_cons_zero, List.set_cons_succ]
  refine pv_aloadn (pc := 54) (n := 0) 0 rfl rfl (fm_dec dtX11_readsStep 30 rfl) ?_
  refine pv_dup (pc := 55) rfl (fm_dec dtX11_readsStep 31 rfl) ?_
  refine pv_getI (k := 0) (j := 26) (ci := 11) (pc := 56) pfl_X11_250 (by decide) rfl (by decide) (fm_dec dtX11_readsStep 32 rfl) ?_
  refine pv_iconst (pc := 59) (v := 1) (by decide) (fm_dec dtX11_readsStep 33 rfl) ?_
  refine pv_iadd (pc := 60) (fm_dec dtX11_readsStep 34 rfl) ?_
  refine pv_putI (k := 0) (j := 26) (ci := 11) (pc := 61) pfl_X11_250 (by decide) rfl (by decide) (fm_dec dtX11_readsStep 35 rfl) ?_
  refine pv_aloadn (pc := 64) (n := 2) 2 rfl rfl (fm_dec dtX11_readsStep 36 rfl) ?_
  refine pv_iconst (pc := 65) (v := 0) (by decide) (fm_dec dtX11_readsStep 37 rfl) ?_
  refine pv_iloadn (pc := 66) (n := 1) 1 rfl rfl (fm_dec dtX11_readsStep 38 rfl) ?_
  refine pv_iast (k := (423 + b)) (n := 3) (pc := 67) (rw_step.2.2.2 _ hb80).2.2.1 (rw_step.2.2.2 _ hb80).2.2.2.1 (rw_step.2.2.2 _ hb80).2.2.2.2 (fm_inl (by decide)) (fm_dec dtX11_readsStep 39 rfl) ?_
  refine pv_iloadn (pc := 68) (n := 1) 1 rfl rfl (fm_dec dtX11_readsStep 40 rfl) ?_
  refine pv_iconst (pc := 69) (v := 3) (by decide) (fm_dec dtX11_readsStep 41 rfl) ?_
  refine pv_icmp_ge (pc := 70) 89 (by decide) (fm_dec dtX11_readsStep 42 rfl) (fun hc70 => by exfalso; revert hc70; decide) (fun _ => ?_)
  refine pv_aloadn (pc := 73) (n := 2) 2 rfl rfl (fm_dec dtX11_readsStep 43 rfl) ?_
  refine pv_iconst (pc := 74) (v := 1) (by decide) (fm_dec dtX11_readsStep 44 rfl) ?_
  refine pv_aloadn (pc := 75) (n := 0) 0 rfl rfl (fm_dec dtX11_readsStep 45 rfl) ?_
  refine pv_iconst (pc := 76) (v := 0) (by decide) (fm_dec dtX11_readsStep 46 rfl) ?_
  refine pv_aloadn (pc := 77) (n := 0) 0 rfl rfl (fm_dec dtX11_readsStep 47 rfl) ?_
  refine pv_getR (k := 0) (j := 12) (ci := 11) (pc := 78) 4 rfl (by decide) pfl_X11_23 (by decide) rfl (by decide) (fm_dec dtX11_readsStep 48 rfl) ?_
  refine pv_iconst (pc := 81) (v := 0) (by decide) (fm_dec dtX11_readsStep 49 rfl) ?_
  refine pv_iald (k := 4) (n := 6) (pc := 82) (by decide) rfl rfl (fm_inl (by decide)) (fm_dec dtX11_readsStep 50 rfl) ?_
  refine pv_iconst (pc := 83) (v := 1) (by decide) (fm_dec dtX11_readsStep 51 rfl) ?_
  refine pv_isub (pc := 84) (fm_dec dtX11_readsStep 52 rfl) ?_
  refine pv_invV2 (k := 0) (d' := 2) (pc := 85) pcv_X11_163 (by decide) rfl (Nat.le_of_ble_eq_true rfl) (by omega) (fm_dec dtX11_readsStep 53 rfl) ?_
  refine r_num (M := rsM M x40 2 b) (tx := tx) (n := n) (p := sp tW tx a) 0 ((l : Int) - 1) ⟨by decide, (by have h9 : (rsM M x40 2 b).1 4 0 = M.1 4 0 := (by unfold rsM; rw [fmI_k _ _ (by omega), fmI_k _ _ (by decide), fmI_k _ _ (by decide)]); exact (congrArg (fun y => (y - 1 : Int32).toInt) h9).trans (lh_hi hP.2.2.2.2.2.2.2.1 hP.2.2.2.2.2.2.2.2)), (by have := hP.2.2.2.2.2.2.2.2; omega)⟩ (rsM_S hP hx40 hw40).1 (rsM_S hP hx40 hw40).2 (fun M85 v85 q85 w85 e85 hw85 k85 => ?_) (fun Mb kb ab eb hB => ?_)  
  · refine pv_then1 ?_
    refine pv_iast (k := (423 + b)) (n := 3) (pc := 88) (rw_step.2.2.2 _ hb80).2.2.1 (rw_step.2.2.2 _ hb80).2.2.2.1 (rw_step.2.2.2 _ hb80).2.2.2.2 (fm_inl (by decide)) (fm_dec dtX11_readsStep 54 rfl) ?_
    refine pv_iloadn (pc := 89) (n := 1) 1 rfl rfl (fm_dec dtX11_readsStep 55 rfl) ?_
    refine pv_iconst (pc := 90) (v := 4) (by decide) (fm_dec dtX11_readsStep 56 rfl) ?_
    refine pv_icmp_ne (pc := 91) 161 (by decide) (fm_dec dtX11_readsStep 57 rfl) (fun _ => ?_) (fun hc91 => by exfalso; revert hc91; decide)
    refine pv_aloadn (pc := 161) (n := 2) 2 rfl rfl (fm_dec dtX11_readsStep 93 rfl) ?_
    refine pv_iconst (pc := 162) (v := 2) (by decide) (fm_dec dtX11_readsStep 94 rfl) ?_
    refine pv_aloadn (pc := 163) (n := 0) 0 rfl rfl (fm_dec dtX11_readsStep 95 rfl) ?_
    refine pv_getI (k := 0) (j := 26) (ci := 11) (pc := 164) pfl_X11_250 (by decide) rfl (by decide) (fm_dec dtX11_readsStep 96 rfl) ?_
    refine pv_iast (k := (423 + b)) (n := 3) (pc := 167) (rw_step.2.2.2 _ hb80).2.2.1 (rw_step.2.2.2 _ hb80).2.2.2.1 (rw_step.2.2.2 _ hb80).2.2.2.2 (fm_inl (by decide)) (fm_dec dtX11_readsStep 97 rfl) ?_
    refine pv_aloadn (pc := 168) (n := 0) 0 rfl rfl (fm_dec dtX11_readsStep 98 rfl) ?_
    refine pv_bipush (pc := 169) (v := 59) (by decide) (fm_dec dtX11_readsStep 99 rfl) ?_
    refine pv_invV1 (k := 0) (d' := 2) (pc := 171) pcv_X11_173 (by decide) rfl (Nat.le_of_ble_eq_true rfl) (by omega) (fm_dec dtX11_readsStep 100 rfl) ?_
    refine r_sign (tx := tx) (n := n) (p := q85) 59 ⟨by decide, by decide⟩ (by (repeat refine rS.row ?_ ⟨by omega, by omega⟩); exact k85.1) (by (repeat refine f0.row ?_ (by omega)); exact k85.2.1) (fun M171 q171 e171 k171 => ?_) (fun Mb kb ab eb hB => ?_)  
    · refine pv_then0 ?_
      exact pv_return (pc := 174) rfl (fm_dec dtX11_readsStep 101 rfl) (hok _ _ _ (by simp only [spSi, spBind, e85, e171]) (rs_one (k := 2) hP (by decide) k85.2.2 k171.2.2 hw85 k171.1 k171.2.1))
    · refine pv_then0 ?_
      have hB9 := srBad.of ((((rsM_fr hb80).rd k85.2.2).row ⟨Nat.le_refl _, by omega⟩).row ⟨Nat.le_refl _, by omega⟩) hB
      exact pv_return (pc := 174) rfl (fm_dec dtX11_readsStep 101 rfl) (hbad _ kb ab (by simp only [spSi, spBind, e85, eb]) hB9)
  · refine pv_then1 ?_
    have hB9 := srBad.of (rsM_fr hb80) hB
    refine pv_iast (k := (423 + b)) (n := 3) (pc := 88) (rw_step.2.2.2 _ hb80).2.2.1 (rw_step.2.2.2 _ hb80).2.2.2.1 (rw_step.2.2.2 _ hb80).2.2.2.2 (fm_inl (by decide)) (fm_dec dtX11_readsStep 54 rfl) ?_
    refine pv_iloadn (pc := 89) (n := 1) 1 rfl rfl (fm_dec dtX11_readsStep 55 rfl) ?_
    refine pv_iconst (pc := 90) (v := 4) (by decide) (fm_dec dtX11_readsStep 56 rfl) ?_
    refine pv_icmp_ne (pc := 91) 161 (by decide) (fm_dec dtX11_readsStep 57 rfl) (fun _ => ?_) (fun hc91 => by exfalso; revert hc91; decide)
    refine pv_aloadn (pc := 161) (n := 2) 2 rfl rfl (fm_dec dtX11_readsStep 93 rfl) ?_
    refine pv_iconst (pc := 162) (v := 2) (by decide) (fm_dec dtX11_readsStep 94 rfl) ?_
    refine pv_aloadn (pc := 163) (n := 0) 0 rfl rfl (fm_dec dtX11_readsStep 95 rfl) ?_
    refine pv_getI (k := 0) (j := 26) (ci := 11) (pc := 164) pfl_X11_250 (by decide) rfl (by decide) (fm_dec dtX11_readsStep 96 rfl) ?_
    refine pv_iast (k := (423 + b)) (n := 3) (pc := 167) (rw_step.2.2.2 _ hb80).2.2.1 (rw_step.2.2.2 _ hb80).2.2.2.1 (rw_step.2.2.2 _ hb80).2.2.2.2 (fm_inl (by decide)) (fm_dec dtX11_readsStep 97 rfl) ?_
    refine pv_aloadn (pc := 168) (n := 0) 0 rfl rfl (fm_dec dtX11_readsStep 98 rfl) ?_
    refine pv_bipush (pc := 169) (v := 59) (by decide) (fm_dec dtX11_readsStep 99 rfl) ?_
    refine pv_invV1 (k := 0) (d' := 2) (pc := 171) pcv_X11_173 (by decide) rfl (Nat.le_of_ble_eq_true rfl) (by omega) (fm_dec dtX11_readsStep 100 rfl) ?_
    refine c_sign1 (srBad.nz (M := M) (tx := tx) (n := n) (k := kb) (a := ab) (b := b) (by (repeat refine srBad.row ⟨by omega, by omega⟩ ?_); exact hB9)) ?_
    refine pv_then0 ?_
    exact pv_return (pc := 174) rfl (fm_dec dtX11_readsStep 101 rfl) (hbad _ kb ab (by simp only [spSi, spBind, eb]) (by (repeat refine srBad.row ⟨by omega, by omega⟩ ?_); exact hB9))
set_option maxRecDepth 20000 in
theorem rs5_3 {Q : fmR → fmM → Prop} {M : fmM} {tx : tX} {n a o b l : Nat} {v2 : Option Value} (hP : srPre M tx n a o b l) (hok : ∀ (M' : fmM) (ss : tS) (q' : Nat), spWk tx b (sp tW tx a) = .inr (ss, q') → srOk M M' tx n q' b ss → Q (.inl none) M') (hbad : ∀ (M' : fmM) (k a' : Nat), spWk tx b (sp tW tx a) = .inl (k, a') → srBad M M' tx n k a' b → Q (.inl none) M') : pvEv Tm (5 + (6 - o)) qX11_readsStep 5 [some (.ref 0), some (.int 3), v2] [] M Q := by
  refine pv_iloadn (pc := 5) (n := 1) 1 rfl rfl (fm_dec dtX11_readsStep 3 rfl) ?_
  refine pv_iconst (pc := 6) (v := (-1)) (by decide) (fm_dec dtX11_readsStep 4 rfl) ?_
  refine pv_icmp_ne (pc := 7) 19 (by decide) (fm_dec dtX11_readsStep 5 rfl) (fun _ => ?_) (fun hc7 => by exfalso; revert hc7; decide)
  refine pv_iloadn (pc := 19) (n := 1) 1 rfl rfl (fm_dec dtX11_readsStep 11 rfl) ?_
  refine pv_iconst (pc := 20) (v := 4) (by decide) (fm_dec dtX11_readsStep 12 rfl) ?_
  refine pv_icmp_ne (pc := 21) 32 (by decide) (fm_dec dtX11_readsStep 13 rfl) (fun _ => ?_) (fun hc21 => by exfalso; revert hc21; decide)
  refine pv_aloadn (pc := 32) (n := 0) 0 rfl rfl (fm_dec dtX11_readsStep 18 rfl) ?_
  refine pv_getI (k := 0) (j := 5) (ci := 11) (pc := 33) pfl_X11_117 (by decide) rfl (by decide) (fm_dec dtX11_readsStep 19 rfl) ?_
  refine pv_if_eq (pc := 36) 40 (by decide) (fm_dec dtX11_readsStep 20 rfl) (fun _ => ?_) (fun hc36 => by exfalso; exact hc36 hP.2.1)
  refine pv_aloadn (pc := 40) (n := 0) 0 rfl rfl (fm_dec dtX11_readsStep 22 rfl) ?_
  refine pv_invV0 (k := 0) (d' := 1) (pc := 41) pcv_X11_154 (by decide) rfl (Nat.le_of_ble_eq_true rfl) (by omega) (fm_dec dtX11_readsStep 23 rfl) ?_
  refine c_skipWord hP.1 (fun x40 hx40 => ?_)
  refine pv_then0 ?_
  have hb80 := hP.b
  have hw40 := sp_le (p := a) tW_1 hP.1.2.2.2.1 hP.1.2.2.1
  refine pv_aloadn (pc := 44) (n := 0) 0 rfl rfl (fm_dec dtX11_readsStep 24 rfl) ?_
  refine pv_getR (k := 0) (j := 25) (ci := 11) (pc := 45) 24 rfl (by decide) pfl_X11_58 (by decide) rfl (by decide) (fm_dec dtX11_readsStep 25 rfl) ?_
  refine pv_aloadn (pc := 48) (n := 0) 0 rfl rfl (fm_dec dtX11_readsStep 26 rfl) ?_
  refine pv_getI (k := 0) (j := 26) (ci := 11) (pc := 49) pfl_X11_250 (by decide) rfl (by decide) (fm_dec dtX11_readsStep 27 rfl) ?_
  refine pv_aald (k := 24) (n := 80) (r := (423 + b)) (pc := 52) (by decide) (Or.inr (Or.inr rfl)) rfl (rw_step.inb hP.2.2.2.2.1 hb80) (rw_step.at hP.2.2.2.2.1 hb80) (rw_step.2.2.2 _ hb80).2.1 (fm_dec dtX11_readsStep 28 rfl) ?_
  refine pv_astoren (pc := 53) (n := 2) 2 rfl (by decide) rfl (fm_dec dtX11_readsStep 29 rfl) ?_
  dsimp only [List.set_cons_zero, List.set_cons_succ]
  refine pv_aloadn (pc := 54) (n := 0) 0 rfl rfl (fm_dec dtX11_readsStep 30 rfl) ?_
  refine pv_dup (pc := 55) rfl (fm_dec dtX11_readsStep 31 rfl) ?_
  refine pv_getI (k := 0) (j := 26) (ci := 11) (pc := 56) pfl_X11_250 (by decide) rfl (by decide) (fm_dec dtX11_readsStep 32 rfl) ?_
  refine pv_iconst (pc := 59) (v := 1) (by decide) (fm_dec dtX11_readsStep 33 rfl) ?_
  refine pv_iadd (pc := 60) (fm_dec dtX11_readsStep 34 rfl) ?_
  refine pv_putI (k := 0) (j := 26) (ci := 11) (pc := 61) pfl_X11_250 (by decide) rfl (by decide) (fm_dec dtX11_readsStep 35 rfl) ?_
  refine pv_aloadn (pc := 64) (n := 2) 2 rfl rfl (fm_dec dtX11_readsStep 36 rfl) ?_
  refine pv_iconst (pc := 65) (v := 0) (by decide) (fm_dec dtX11_readsStep 37 rfl) ?_
  refine pv_iloadn (pc := 66) (n := 1) 1 rfl rfl (fm_dec dtX11_readsStep 38 rfl) ?_
  refine pv_iast (k := (423 + b)) (n := 3) (pc := 67) (rw_step.2.2.2 _ hb80).2.2.1 (rw_step.2.2.2 _ hb80).2.2.2.1 (rw_step.2.2.2 _ hb80).2.2.2.2 (fm_inl (by decide)) (fm_dec dtX11_readsStep 39 rfl) ?_
  refine pv_iloadn (pc := 68) (n := 1) 1 rfl rfl (fm_dec dtX11_readsStep 40 rfl) ?_
  refine pv_iconst (pc := 69) (v := 3) (by decide) (fm_dec dtX11_readsStep 41 rfl) ?_
  refine pv_icmp_ge (pc := 70) 89 (by decide) (fm_dec dtX11_readsStep 42 rfl) (fun _ => ?_) (fun hc70 => by exfalso; revert hc70; decide)
  refine pv_iloadn (pc := 89) (n := 1) 1 rfl rfl (fm_dec dtX11_readsStep 55 rfl) ?_
  refine pv_iconst (pc := 90) (v := 4) (by decide) (fm_dec dtX11_readsStep 56 rfl) ?_
  refine pv_icmp_ne (pc := 91) 161 (by decide) (fm_dec dtX11_readsStep 57 rfl) (fun _ => ?_) (fun hc91 => by exfalso; revert hc91; decide)
  refine pv_aloadn (pc := 161) (n := 2) 2 rfl rfl (fm_dec dtX11_readsStep 93 rfl) ?_
  refine pv_iconst (pc := 162) (v := 2) (by decide) (fm_dec dtX11_readsStep 94 rfl) ?_
  refine pv_aloadn (pc := 163) (n := 0) 0 rfl rfl (fm_dec dtX11_readsStep 95 rfl) ?_
  refine pv_getI (k := 0) (j := 26) (ci := 11) (pc := 164) pfl_X11_250 (by decide) rfl (by decide) (fm_dec dtX11_readsStep 96 rfl) ?_
  refine pv_iast (k := (423 + b)) (n := 3) (pc := 167) (rw_step.2.2.2 _ hb80).2.2.1 (rw_step.2.2.2 _ hb80).2.2.2.1 (rw_step.2.2.2 _ hb80).2.2.2.2 (fm_inl (by decide)) (fm_dec dtX11_readsStep 97 rfl) ?_
  refine pv_aloadn (pc := 168) (n := 0) 0 rfl rfl (fm_dec dtX11_readsStep 98 rfl) ?_
  refine pv_bipush (pc := 169) (v := 59) (by decide) (fm_dec dtX11_readsStep 99 rfl) ?_
  refine pv_invV1 (k := 0) (d' := 2) (pc := 171) pcv_X11_173 (by decide) rfl (Nat.le_of_ble_eq_true rfl) (by omega) (fm_dec dtX11_readsStep 100 rfl) ?_
  refine r_sign (M := fmI (rsM M x40 3 b) (423 + b) 2 ((rsM M x40 3 b).1 0 26)) (tx := tx) (n := n) (p := sp tW tx a) 59 ⟨by decide, by decide⟩ ((rsM_S hP hx40 hw40).1.row ⟨by omega, by omega⟩) (f0.row (rsM_S hP hx40 hw40).2 (by omega)) (fun M171 q171 e171 k171 => ?_) (fun Mb kb ab eb hB => ?_)  
  · refine pv_then0 ?_
    exact pv_return (pc := 174) rfl (fm_dec dtX11_readsStep 101 rfl) (hok _ _ _ (by simp only [spWk, spBind, e171]) (rs_wk hP k171.2.2 k171.1 k171.2.1))
  · refine pv_then0 ?_
    have hB9 := srBad.of ((rsM_fr hb80).row ⟨Nat.le_refl _, by omega⟩) hB
    exact pv_return (pc := 174) rfl (fm_dec dtX11_readsStep 101 rfl) (hbad _ kb ab (by simp only [spWk, spBind, eb]) hB9)
set_option maxRecDepth 20000 in
theorem rs5_n {Q : fmR → fmM → Prop} {M : fmM} {tx : tX} {n a o b l : Nat} {v2 : Option Value} (hP : srPre M tx n a o b l) (hbad : ∀ M' : fmM, srBad M M' tx n 1 a b → Q (.inl none) M') : pvEv Tm (5 + (6 - o)) qX11_readsStep 5 [some (.ref 0), some (.int (-1)), v2] [] M Q := by
  refine pv_iloadn (pc := 5) (n := 1) 1 rfl rfl (fm_dec dtX11_readsStep 3 rfl) ?_
  refine pv_iconst (pc := 6) (v := (-1)) (by decide) (fm_dec dtX11_readsStep 4 rfl) ?_
  refine pv_icmp_ne (pc := 7) 19 (by decide) (fm_dec dtX11_readsStep 5 rfl) (fun hc7 => by exfalso; revert hc7; decide) (fun _ => ?_)
  refine pv_aloadn (pc := 10) (n := 0) 0 rfl rfl (fm_dec dtX11_readsStep 6 rfl) ?_
  refine pv_iconst (pc := 11) (v := 1) (by decide) (fm_dec dtX11_readsStep 7 rfl) ?_
  refine pv_aloadn (pc := 12) (n := 0) 0 rfl rfl (fm_dec dtX11_readsStep 8 rfl) ?_
  refine pv_getI (k := 0) (j := 4) (ci := 11) (pc := 13) pfl_X11_110 (by decide) rfl (by decide) (fm_dec dtX11_readsStep 9 rfl) ?_
  refine pv_invV2 (k := 0) (d' := 0) (pc := 16) pcv_X11_130 (by decide) rfl (Nat.le_of_ble_eq_true rfl) (by omega) (fm_dec dtX11_readsStep 10 rfl) ?_
  refine c_wrongAt (fun _ => ?_) (fun h9 => absurd hP.2.1 h9) 
  refine pv_then0 ?_
  refine pv_iloadn (pc := 19) (n := 1) 1 rfl rfl (fm_dec dtX11_readsStep 11 rfl) ?_
  refine pv_iconst (pc := 20) (v := 4) (by decide) (fm_dec dtX11_readsStep 12 rfl) ?_
  refine pv_icmp_ne (pc := 21) 32 (by decide) (fm_dec dtX11_readsStep 13 rfl) (fun _ => ?_) (fun hc21 => by exfalso; revert hc21; decide)
  refine pv_aloadn (pc := 32) (n := 0) 0 rfl rfl (fm_dec dtX11_readsStep 18 rfl) ?_
  refine pv_getI (k := 0) (j := 5) (ci := 11) (pc := 33) pfl_X11_117 (by decide) rfl (by decide) (fm_dec dtX11_readsStep 19 rfl) ?_
  refine pv_if_eq (pc := 36) 40 (by decide) (fm_dec dtX11_readsStep 20 rfl) (fun hc36 => by exfalso; exact absurd (show (1 : Int32) = 0 from hc36) (by decide)) (fun _ => ?_)
  exact pv_return (pc := 39) rfl (fm_dec dtX11_readsStep 21 rfl) (hbad _ (srBad.of (srFr.refl b M) (rdBad.at0 hP.1 (by decide) hP.1.2.1 (by decide))))
theorem spSt_93 {tx : tX} {l f o b p : Nat} (h : tx p = 93) : spSt tx l (f + 1) 1 o b p = .inr ([], p) := if_pos h
theorem spSt_nx {tx : tX} {l f o b p : Nat} (h : ¬ tx p = 93) : spSt tx l (f + 1) 1 o b p = spBind (spSt tx l f 0 o b p) fun ss q => spBind (spSt tx l f 1 o (b + ss.length) (sk tx q)) fun ts q => .inr (ss ++ ts, q) := if_neg h
theorem srOk.nil {M : fmM} {tx : tX} {n p o b l : Nat} (h : srPre M tx n p o b l) : srOk M M tx n p b [] := ⟨h.1, h.2.1, rfl, h.2.2.2.2.1, fun i s hi => (by cases hi), srFr.refl b M⟩
theorem srOk.app {M M1 M2 M3 : fmM} {tx : tX} {n q1 q2 b : Nat} {ss ts : tS} (h1 : srOk M M1 tx n q1 b ss) (hr : rdFr M1 M2) (h8 : M2.1 0 8 = M1.1 0 8) (h2 : srOk M2 M3 tx n q2 (b + ss.length) ts) : srOk M M3 tx n q2 b (ss ++ ts) := by
  obtain ⟨a1, a2, a3, a4, a5, a6⟩ := h1
  obtain ⟨b1, b2, b3, b4, b5, b6⟩ := h2
  refine ⟨b1, b2, (b3.trans h8).trans a3, ?_, fun i s hi => ?_, (a6.rd hr).trans b6 (by omega)⟩
  · rw [b4, List.length_append]
    congr 1
    omega
  · by_cases e : i < ss.length
    · rw [List.getElem?_append_left e] at hi
      have e9 : ∀ j, M3.1 (423 + b + i) j = M1.1 (423 + b + i) j := fun j => (b6.1 _ j (by omega) (by omega)).trans (hr.1 _ j (by omega))
      rw [e9, e9, e9]
      exact a5 i s hi
    · rw [List.getElem?_append_right (by omega)] at hi
      have h9 := b5 (i - ss.length) s hi
      rw [show 423 + (b + ss.length) + (i - ss.length) = 423 + b + i by omega] at h9
      exact h9
theorem srPre.next {M M1 M2 : fmM} {tx : tX} {n p q o b l : Nat} {ss : tS} (h : srPre M tx n p o b l) (h1 : srOk M M1 tx n q b ss) (hq : p + 2 * ss.length ≤ q) (h2 : rdOk M1 M2 tx n (sk tx q)) : srPre M2 tx n (sk tx q) o (b + ss.length) l := by
  obtain ⟨a1, a2, a3, a4, a5, a6, a7, a8, a9⟩ := h
  have g : q ≤ sk tx q := sp_ge q
  refine ⟨h2.1, h2.2.1, ?_, a4, ?_, by omega, a7, ?_, a9⟩
  · rw [h2.2.2.2.1 8 (by decide) (by decide) (by decide), h1.2.2.1]
    exact a3
  · rw [h2.2.2.2.1 26 (by decide) (by decide) (by decide)]
    exact h1.2.2.2.1
  · rw [h2.2.2.1 4 0 (by decide), h1.2.2.2.2.2.1 4 0 (by decide) (by omega)]
    exact a8
def srG (tx : tX) (n l f : Nat) : Prop := ∀ (o b p : Nat) (M : fmM) (Q : fmR → fmM → Prop), srPre M tx n p o b l → ¬ spSt tx l f 0 o b p = .inl (9, 0) → (∀ (M' : fmM) (ss : tS) (q : Nat), spSt tx l f 0 o b p = .inr (ss, q) → srOk M M' tx n q b ss → Q (.inl none) M') → (∀ (M' : fmM) (k a : Nat), spSt tx l f 0 o b p = .inl (k, a) → srBad M M' tx n k a b → Q (.inl none) M') → pvGood Tm (5 + (6 - o)) qX11_readsStep [.ref 0] M Q
def srLp (tx : tX) (n l f : Nat) : Prop := ∀ (o b p r0 : Nat) (M : fmM) (Q : fmR → fmM → Prop), o < 6 → srPre M tx n p (o + 1) b l → ¬ spSt tx l f 1 (o + 1) b p = .inl (9, 0) → (∀ (M' : fmM) (ss : tS) (q : Nat), spSt tx l f 1 (o + 1) b p = .inr (ss, q) → srOk M M' tx n q b ss → pvEv Tm (5 + (6 - o)) qX11_readsStep 145 [some (.ref 0), some (.int 4), some (.ref r0)] [] M' Q) → (∀ (M' : fmM) (k a : Nat), spSt tx l f 1 (o + 1) b p = .inl (k, a) → srBad M M' tx n k a b → pvEv Tm (5 + (6 - o)) qX11_readsStep 145 [some (.ref 0), some (.int 4), some (.ref r0)] [] M' Q) → pvEv Tm (5 + (6 - o)) qX11_readsStep 114 [some (.ref 0), some (.int 4), some (.ref r0)] [] M Q
set_option maxRecDepth 20000 in
theorem rs_o1 {Q : fmR → fmM → Prop} {M : fmM} {o r0 : Nat} (hf : ¬ M.1 0 5 = 0) (hq : pvEv Tm (5 + (6 - o)) qX11_readsStep 145 [some (.ref 0), some (.int 4), some (.ref r0)] [] M Q) : pvEv Tm (5 + (6 - o)) qX11_readsStep 114 [some (.ref 0), some (.int 4), some (.ref r0)] [] M Q := by
  refine pv_aloadn (pc := 114) (n := 0) 0 rfl rfl (fm_dec dtX11_readsStep 70 rfl) ?_
  refine pv_getI (k := 0) (j := 5) (ci := 11) (pc := 115) pfl_X11_117 (by decide) rfl (by decide) (fm_dec dtX11_readsStep 71 rfl) ?_
  refine pv_if_ne (pc := 118) 145 (by decide) (fm_dec dtX11_readsStep 72 rfl) (fun _ => ?_) (fun hc118 => by exfalso; exact hf hc118)
  exact hq
set_option maxRecDepth 20000 in
theorem rs_loop {tx : tX} {n l f : Nat} (ihG : srG tx n l f) (ihL : srLp tx n l f) : srLp tx n l (f + 1) := by
  intro o b p r0 M Q ho hP hne hok hbad
  refine pv_aloadn (pc := 114) (n := 0) 0 rfl rfl (fm_dec dtX11_readsStep 70 rfl) ?_
  refine pv_getI (k := 0) (j := 5) (ci := 11) (pc := 115) pfl_X11_117 (by decide) rfl (by decide) (fm_dec dtX11_readsStep 71 rfl) ?_
  refine pv_if_ne (pc := 118) 145 (by decide) (fm_dec dtX11_readsStep 72 rfl) (fun hc118 => by exfalso; exact hc118 hP.2.1) (fun _ => ?_)
  refine pv_aloadn (pc := 121) (n := 0) 0 rfl rfl (fm_dec dtX11_readsStep 73 rfl) ?_
  refine pv_aloadn (pc := 122) (n := 0) 0 rfl rfl (fm_dec dtX11_readsStep 74 rfl) ?_
  refine pv_getI (k := 0) (j := 4) (ci := 11) (pc := 123) pfl_X11_110 (by decide) rfl (by decide) (fm_dec dtX11_readsStep 75 rfl) ?_
  refine pv_invV1 (k := 0) (d' := 0) (pc := 126) pcv_X11_113 (by decide) rfl (Nat.le_of_ble_eq_true rfl) (by omega) (fm_dec dtX11_readsStep 76 rfl) ?_
  refine c_byteAt hP.1 p hP.1.2.1 (fun v126 hv126 => ?_)
  refine pv_then1 ?_
  refine pv_bipush (pc := 129) (v := 93) (by decide) (fm_dec dtX11_readsStep 77 rfl) ?_
  refine pv_icmp_eq (pc := 131) 145 (by decide) (fm_dec dtX11_readsStep 78 rfl) (fun hc131 => ?_) (fun hc131 => ?_)
  · exact hok M [] p (spSt_93 (by rw [← hv126, hc131]; decide)) (srOk.nil hP)
  · have h93 : ¬ tx p = 93 := fun h9 => hc131 (i32_ext (hv126.trans (h9.trans (by decide))))
    have eN := spSt_nx (l := l) (f := f) (o := o + 1) (b := b) h93
    have hne0 : ¬ spSt tx l f 0 (o + 1) b p = .inl (9, 0) := fun h9 => hne (by rw [eN, h9]; rfl)
    refine pv_aloadn (pc := 134) (n := 0) 0 rfl rfl (fm_dec dtX11_readsStep 79 rfl) ?_
    refine pv_invV0 (k := 0) (d' := (5 + (6 - (o + 1)))) (pc := 135) pcv_X11_253 (by decide) rfl (Nat.le_of_ble_eq_true rfl) (by omega) (fm_dec dtX11_readsStep 80 rfl) ?_
    refine ihG (o + 1) b p M _ hP hne0 (fun M135 ss q135 e135 k135 => ?_) (fun Mb kb ab eb hB => ?_)  
    · refine pv_then0 ?_
      refine pv_aloadn (pc := 138) (n := 0) 0 rfl rfl (fm_dec dtX11_readsStep 81 rfl) ?_
      refine pv_invV0 (k := 0) (d' := 1) (pc := 139) pcv_X11_123 (by decide) rfl (Nat.le_of_ble_eq_true rfl) (by omega) (fm_dec dtX11_readsStep 82 rfl) ?_
      refine r_blanks k135.1 k135.2.1 (fun M139 k139 => ?_)
      refine pv_then0 ?_
      refine pv_goto (pc := 142) 114 (by decide) (fm_dec dtX11_readsStep 83 rfl) ?_
      have hl := spSt_len hP.1.2.2.2.1 _ _ _ _ _ _ _ hP.1.2.2.1 e135
      have eB : spSt tx l (f + 1) 1 (o + 1) b p = spBind (spSt tx l f 1 (o + 1) (b + ss.length) (sk tx q135)) fun ts q => .inr (ss ++ ts, q) := (by rw [eN, e135]; rfl)
      refine ihL o (b + ss.length) (sk tx q135) r0 M139 Q ho (hP.next k135 hl.1 k139) (fun h9 => hne (by rw [eB, h9]; rfl)) (fun M' ts q e k => hok M' (ss ++ ts) q (by rw [eB, e]; rfl) (k135.app k139.2.2 (k139.2.2.2.1 8 (by decide) (by decide) (by decide)) k)) (fun M' k a e hb => hbad M' k a (by rw [eB, e]; rfl) ⟨hb.1, hb.2.1, hb.2.2.1, hb.2.2.2.1, (k135.2.2.2.2.2.rd k139.2.2).trans hb.2.2.2.2 (by omega)⟩)
    · refine pv_then0 ?_
      obtain ⟨qb, hSb⟩ := hB.1
      refine pv_aloadn (pc := 138) (n := 0) 0 rfl rfl (fm_dec dtX11_readsStep 81 rfl) ?_
      refine pv_invV0 (k := 0) (d' := 1) (pc := 139) pcv_X11_123 (by decide) rfl (Nat.le_of_ble_eq_true rfl) (by omega) (fm_dec dtX11_readsStep 82 rfl) ?_
      refine c_blanks hSb (fun x139 hx139 => ?_)
      refine pv_then0 ?_
      refine pv_goto (pc := 142) 114 (by decide) (fm_dec dtX11_readsStep 83 rfl) ?_
      exact rs_o1 (show ¬ (fmI Mb 0 4 x139).1 0 5 = 0 from hB.nz) (hbad _ kb ab (by rw [eN, eb]; rfl) ⟨⟨_, hSb.bl hx139⟩, hB.2.1, hB.2.2.1, hB.2.2.2.1, hB.2.2.2.2.c0 (Or.inl rfl)⟩)
set_option maxRecDepth 20000 in
theorem rs_t1 {Q : fmR → fmM → Prop} {M0 M : fmM} {tx : tX} {n kb ab b o : Nat} (hb80 : b < 80) (hB9 : srBad M0 M tx n kb ab b) (hq : ∀ M' : fmM, srBad M0 M' tx n kb ab b → Q (.inl none) M') : pvEv Tm (5 + (6 - o)) qX11_readsStep 145 [some (.ref 0), some (.int 4), some (.ref (423 + b))] [] M Q := by
  refine pv_aloadn (pc := 145) (n := 0) 0 rfl rfl (fm_dec dtX11_readsStep 84 rfl) ?_
  refine pv_bipush (pc := 146) (v := 93) (by decide) (fm_dec dtX11_readsStep 85 rfl) ?_
  refine pv_invV1 (k := 0) (d' := 2) (pc := 148) pcv_X11_173 (by decide) rfl (Nat.le_of_ble_eq_true rfl) (by omega) (fm_dec dtX11_readsStep 86 rfl) ?_
  refine c_sign1 (srBad.nz (M := M0) (tx := tx) (n := n) (k := kb) (a := ab) (b := b) hB9) ?_
  refine pv_then0 ?_
  refine pv_aloadn (pc := 151) (n := 0) 0 rfl rfl (fm_dec dtX11_readsStep 87 rfl) ?_
  refine pv_dup (pc := 152) rfl (fm_dec dtX11_readsStep 88 rfl) ?_
  refine pv_getI (k := 0) (j := 8) (ci := 11) (pc := 153) pfl_X11_160 (by decide) rfl (by decide) (fm_dec dtX11_readsStep 89 rfl) ?_
  refine pv_iconst (pc := 156) (v := 1) (by decide) (fm_dec dtX11_readsStep 90 rfl) ?_
  refine pv_isub (pc := 157) (fm_dec dtX11_readsStep 91 rfl) ?_
  refine pv_putI (k := 0) (j := 8) (ci := 11) (pc := 158) pfl_X11_160 (by decide) rfl (by decide) (fm_dec dtX11_readsStep 92 rfl) ?_
  refine pv_aloadn (pc := 161) (n := 2) 2 rfl rfl (fm_dec dtX11_readsStep 93 rfl) ?_
  refine pv_iconst (pc := 162) (v := 2) (by decide) (fm_dec dtX11_readsStep 94 rfl) ?_
  refine pv_aloadn (pc := 163) (n := 0) 0 rfl rfl (fm_dec dtX11_readsStep 95 rfl) ?_
  refine pv_getI (k := 0) (j := 26) (ci := 11) (pc := 164) pfl_X11_250 (by decide) rfl (by decide) (fm_dec dtX11_readsStep 96 rfl) ?_
  refine pv_iast (k := (423 + b)) (n := 3) (pc := 167) (rw_step.2.2.2 _ hb80).2.2.1 (rw_step.2.2.2 _ hb80).2.2.2.1 (rw_step.2.2.2 _ hb80).2.2.2.2 (fm_inl (by decide)) (fm_dec dtX11_readsStep 97 rfl) ?_
  refine pv_aloadn (pc := 168) (n := 0) 0 rfl rfl (fm_dec dtX11_readsStep 98 rfl) ?_
  refine pv_bipush (pc := 169) (v := 59) (by decide) (fm_dec dtX11_readsStep 99 rfl) ?_
  refine pv_invV1 (k := 0) (d' := 2) (pc := 171) pcv_X11_173 (by decide) rfl (Nat.le_of_ble_eq_true rfl) (by omega) (fm_dec dtX11_readsStep 100 rfl) ?_
  refine c_sign1 (srBad.nz (M := M0) (tx := tx) (n := n) (k := kb) (a := ab) (b := b) (srBad.row ⟨by omega, by omega⟩ hB9.c8)) ?_
  refine pv_then0 ?_
  exact pv_return (pc := 174) rfl (fm_dec dtX11_readsStep 101 rfl) (hq _ (srBad.row ⟨by omega, by omega⟩ hB9.c8))
/-- again, all of it, is read -/
theorem rs_ag {M M100 M107 M111 M145 M148 M171 : fmM} {x w : Int32} {tx : tX} {n q q' o b l v : Nat} {ss : tS} (hb : b < 80) (f1 : rdFr (rsM (fmI M 0 8 (M.1 0 8 + 1)) x 4 b) M100) (f2 : rdFr (fmI M100 (423 + b) 1 w) M107) (f3 : rdFr M107 M111) (hk : srOk M111 M145 tx n q (b + 1) ss) (f4 : rdFr M145 M148) (f5 : rdFr (fmI (fmI M148 0 8 (M148.1 0 8 - 1)) (423 + b) 2 ((fmI M148 0 8 (M148.1 0 8 - 1)).1 0 26)) M171) (hw : w.toInt = v) (hS : rS M171 tx n q') (hf : M171.1 0 5 = 0) : srOk M M171 tx n q' b ((4, v, b + 1 + ss.length) :: ss) := by
  obtain ⟨k1, k2, k3, k4, k5, k6⟩ := hk
  have g26 : (M148.1 0 26).toInt = ((b + 1 + ss.length : Nat) : Int) := by
    rw [f4.2.1 26 (by decide) (by decide) (by decide)]
    exact k4
  have e26 : (fmI M148 0 8 (M148.1 0 8 - 1)).1 0 26 = M148.1 0 26 := by rw [fmI_j _ _ (by decide)]
  have e8 : M148.1 0 8 = M.1 0 8 + 1 := by
    rw [f4.2.1 8 (by decide) (by decide) (by decide), k3, f3.2.1 8 (by decide) (by decide) (by decide), f2.2.1 8 (by decide) (by decide) (by decide), fmI_k _ _ (by omega), f1.2.1 8 (by decide) (by decide) (by decide)]
    unfold rsM
    rw [fmI_k _ _ (by omega), fmI_j _ _ (by decide), fmI_j _ _ (by decide), fmI_s]
  have r : ∀ k j, k ≠ 0 → k ≠ 423 + b → M171.1 k j = M145.1 k j := fun k j a c => by
    rw [f5.1 k j a, fmI_k _ _ c, fmI_k _ _ a, f4.1 k j a]
  have r0 : ∀ j, j ≠ 2 → M171.1 (423 + b) j = (fmI M100 (423 + b) 1 w).1 (423 + b) j := fun j a => by
    rw [f5.1 _ _ (by omega), fmI_j _ _ a, fmI_k _ _ (by omega), f4.1 _ _ (by omega), k6.1 _ _ (by omega) (by omega), f3.1 _ _ (by omega), f2.1 _ _ (by omega)]
  refine ⟨hS, hf, ?_, ?_, fun i s hi => ?_, ?_⟩
  · rw [f5.2.1 8 (by decide) (by decide) (by decide), fmI_k _ _ (by omega), fmI_s, e8]
    exact Int32.add_sub_cancel _ _
  · rw [f5.2.1 26 (by decide) (by decide) (by decide), fmI_k _ _ (by omega), e26, g26, List.length_cons]
    congr 1
    omega
  · cases i with
    | zero =>
      cases hi
      rw [show 423 + b + 0 = 423 + b from rfl]
      refine ⟨?_, fun _ => ?_, ?_⟩
      · rw [r0 0 (by decide), fmI_j _ _ (by decide), f1.1 _ _ (by omega)]
        unfold rsM
        rw [fmI_s]
        exact (show (4 : Int32).toInt = 4 by decide)
      · rw [r0 1 (by decide), fmI_s]
        exact hw
      · rw [f5.1 _ _ (by omega), fmI_s, e26]
        exact g26
    | succ i =>
      have h9 := k5 i s hi
      rw [show 423 + b + (i + 1) = 423 + (b + 1) + i by omega, r _ _ (by omega) (by omega), r _ _ (by omega) (by omega), r _ _ (by omega) (by omega)]
      exact h9
  · have h0 : srFr b M (rsM (fmI M 0 8 (M.1 0 8 + 1)) x 4 b) := ((srFr.refl b M).c0 (Or.inr (Or.inr (Or.inr (Or.inl rfl))))).trans (rsM_fr hb) (Nat.le_refl _)
    exact ((((((((h0.rd f1).row ⟨Nat.le_refl _, by omega⟩).rd f2).rd f3).trans k6 (by omega)).rd f4).c0 (Or.inr (Or.inr (Or.inr (Or.inl rfl))))).row ⟨Nat.le_refl _, by omega⟩).rd f5
set_option maxRecDepth 20000 in
theorem rs_t0 {Q : fmR → fmM → Prop} {M0 M1 M : fmM} {tx : tX} {n q b o : Nat} {ss : tS} (hb80 : b < 80) (h1 : srFr b M0 M1) (hk : srOk M1 M tx n q (b + 1) ss) (hok : ∀ (M148 M171 : fmM) (q148 q171 : Nat), spSign tx 93 q = .inr ((), q148) → rdFr M M148 → spSign tx 59 q148 = .inr ((), q171) → rdOk (fmI (fmI M148 0 8 (M148.1 0 8 - 1)) (423 + b) 2 ((fmI M148 0 8 (M148.1 0 8 - 1)).1 0 26)) M171 tx n q171 → Q (.inl none) M171) (hbad : ∀ (M' : fmM) (kb ab : Nat), (spSign tx 93 q = .inl (kb, ab) ∨ ∃ q148, spSign tx 93 q = .inr ((), q148) ∧ spSign tx 59 q148 = .inl (kb, ab)) → srBad M0 M' tx n kb ab b → Q (.inl none) M') : pvEv Tm (5 + (6 - o)) qX11_readsStep 145 [some (.ref 0), some (.int 4), some (.ref (423 + b))] [] M Q := by
  refine pv_aloadn (pc := 145) (n := 0) 0 rfl rfl (fm_dec dtX11_readsStep 84 rfl) ?_
  refine pv_bipush (pc := 146) (v := 93) (by decide) (fm_dec dtX11_readsStep 85 rfl) ?_
  refine pv_invV1 (k := 0) (d' := 2) (pc := 148) pcv_X11_173 (by decide) rfl (Nat.le_of_ble_eq_true rfl) (by omega) (fm_dec dtX11_readsStep 86 rfl) ?_
  refine r_sign (tx := tx) (n := n) (p := q) 93 ⟨by decide, by decide⟩ hk.1 hk.2.1 (fun M148 q148 e148 k148 => ?_) (fun Mb kb ab eb hB => ?_)  
  · refine pv_then0 ?_
    refine pv_aloadn (pc := 151) (n := 0) 0 rfl rfl (fm_dec dtX11_readsStep 87 rfl) ?_
    refine pv_dup (pc := 152) rfl (fm_dec dtX11_readsStep 88 rfl) ?_
    refine pv_getI (k := 0) (j := 8) (ci := 11) (pc := 153) pfl_X11_160 (by decide) rfl (by decide) (fm_dec dtX11_readsStep 89 rfl) ?_
    refine pv_iconst (pc := 156) (v := 1) (by decide) (fm_dec dtX11_readsStep 90 rfl) ?_
    refine pv_isub (pc := 157) (fm_dec dtX11_readsStep 91 rfl) ?_
    refine pv_putI (k := 0) (j := 8) (ci := 11) (pc := 158) pfl_X11_160 (by decide) rfl (by decide) (fm_dec dtX11_readsStep 92 rfl) ?_
    refine pv_aloadn (pc := 161) (n := 2) 2 rfl rfl (fm_dec dtX11_readsStep 93 rfl) ?_
    refine pv_iconst (pc := 162) (v := 2) (by decide) (fm_dec dtX11_readsStep 94 rfl) ?_
    refine pv_aloadn (pc := 163) (n := 0) 0 rfl rfl (fm_dec dtX11_readsStep 95 rfl) ?_
    refine pv_getI (k := 0) (j := 26) (ci := 11) (pc := 164) pfl_X11_250 (by decide) rfl (by decide) (fm_dec dtX11_readsStep 96 rfl) ?_
    refine pv_iast (k := (423 + b)) (n := 3) (pc := 167) (rw_step.2.2.2 _ hb80).2.2.1 (rw_step.2.2.2 _ hb80).2.2.2.1 (rw_step.2.2.2 _ hb80).2.2.2.2 (fm_inl (by decide)) (fm_dec dtX11_readsStep 97 rfl) ?_
    refine pv_aloadn (pc := 168) (n := 0) 0 rfl rfl (fm_dec dtX11_readsStep 98 rfl) ?_
    refine pv_bipush (pc := 169) (v := 59) (by decide) (fm_dec dtX11_readsStep 99 rfl) ?_
    refine pv_invV1 (k := 0) (d' := 2) (pc := 171) pcv_X11_173 (by decide) rfl (Nat.le_of_ble_eq_true rfl) (by omega) (fm_dec dtX11_readsStep 100 rfl) ?_
    refine r_sign (M := fmI (fmI M148 0 8 (M148.1 0 8 - 1)) (423 + b) 2 ((fmI M148 0 8 (M148.1 0 8 - 1)).1 0 26)) (tx := tx) (n := n) (p := q148) 59 ⟨by decide, by decide⟩ ((k148.1.of rfl rfl rfl : rS (fmI M148 0 8 (M148.1 0 8 - 1)) tx n q148).row ⟨by omega, by omega⟩) (f0.row (show (fmI M148 0 8 (M148.1 0 8 - 1)).1 0 5 = 0 from k148.2.1) (by omega)) (fun M171 q171 e171 k171 => ?_) (fun Mb kb ab eb hB => ?_)  
    · refine pv_then0 ?_
      exact pv_return (pc := 174) rfl (fm_dec dtX11_readsStep 101 rfl) (hok M148 M171 q148 q171 e148 k148.2.2 e171 k171)
    · refine pv_then0 ?_
      have hB9 := srBad.of ((((h1.trans hk.2.2.2.2.2 (by omega)).rd k148.2.2).c0 (Or.inr (Or.inr (Or.inr (Or.inl rfl))))).row ⟨Nat.le_refl _, by omega⟩) hB
      exact pv_return (pc := 174) rfl (fm_dec dtX11_readsStep 101 rfl) (hbad _ kb ab (Or.inr ⟨q148, e148, eb⟩) hB9)
  · refine pv_then0 ?_
    have hB9 := srBad.of (h1.trans hk.2.2.2.2.2 (by omega)) hB
    refine pv_aloadn (pc := 151) (n := 0) 0 rfl rfl (fm_dec dtX11_readsStep 87 rfl) ?_
    refine pv_dup (pc := 152) rfl (fm_dec dtX11_readsStep 88 rfl) ?_
    refine pv_getI (k := 0) (j := 8) (ci := 11) (pc := 153) pfl_X11_160 (by decide) rfl (by decide) (fm_dec dtX11_readsStep 89 rfl) ?_
    refine pv_iconst (pc := 156) (v := 1) (by decide) (fm_dec dtX11_readsStep 90 rfl) ?_
    refine pv_isub (pc := 157) (fm_dec dtX11_readsStep 91 rfl) ?_
    refine pv_putI (k := 0) (j := 8) (ci := 11) (pc := 158) pfl_X11_160 (by decide) rfl (by decide) (fm_dec dtX11_readsStep 92 rfl) ?_
    refine pv_aloadn (pc := 161) (n := 2) 2 rfl rfl (fm_dec dtX11_readsStep 93 rfl) ?_
    refine pv_iconst (pc := 162) (v := 2) (by decide) (fm_dec dtX11_readsStep 94 rfl) ?_
    refine pv_aloadn (pc := 163) (n := 0) 0 rfl rfl (fm_dec dtX11_readsStep 95 rfl) ?_
    refine pv_getI (k := 0) (j := 26) (ci := 11) (pc := 164) pfl_X11_250 (by decide) rfl (by decide) (fm_dec dtX11_readsStep 96 rfl) ?_
    refine pv_iast (k := (423 + b)) (n := 3) (pc := 167) (rw_step.2.2.2 _ hb80).2.2.1 (rw_step.2.2.2 _ hb80).2.2.2.1 (rw_step.2.2.2 _ hb80).2.2.2.2 (fm_inl (by decide)) (fm_dec dtX11_readsStep 97 rfl) ?_
    refine pv_aloadn (pc := 168) (n := 0) 0 rfl rfl (fm_dec dtX11_readsStep 98 rfl) ?_
    refine pv_bipush (pc := 169) (v := 59) (by decide) (fm_dec dtX11_readsStep 99 rfl) ?_
    refine pv_invV1 (k := 0) (d' := 2) (pc := 171) pcv_X11_173 (by decide) rfl (Nat.le_of_ble_eq_true rfl) (by omega) (fm_dec dtX11_readsStep 100 rfl) ?_
    refine c_sign1 (srBad.nz (M := M0) (tx := tx) (n := n) (k := kb) (a := ab) (b := b) (srBad.row ⟨by omega, by omega⟩ hB9.c8)) ?_
    refine pv_then0 ?_
    exact pv_return (pc := 174) rfl (fm_dec dtX11_readsStep 101 rfl) (hbad _ kb ab (Or.inl eb) (srBad.row ⟨by omega, by omega⟩ hB9.c8))
theorem srPre.in8 {M : fmM} {tx : tX} {n a o b l : Nat} (h : srPre M tx n a o b l) (ho : o < 6) : srPre (fmI M 0 8 (M.1 0 8 + 1)) tx n a (o + 1) b l := ⟨h.1.of rfl rfl rfl, h.2.1, i32_p1 h.2.2.1 (by omega), by omega, h.2.2.2.2.1, h.2.2.2.2.2.1, h.2.2.2.2.2.2.1, (by rw [fmI_k _ _ (by decide)]; exact h.2.2.2.2.2.2.2.1), h.2.2.2.2.2.2.2.2⟩
theorem srPre.in1 {M8 M100 M107 M111 : fmM} {x w : Int32} {tx : tX} {n a o b l q : Nat} (h : srPre M8 tx n a o b l) (ha : a + 2 ≤ q) (f1 : rdFr (rsM M8 x 4 b) M100) (f2 : rdFr (fmI M100 (423 + b) 1 w) M107) (k3 : rdOk M107 M111 tx n q) : srPre M111 tx n q o (b + 1) l := by
  have hb := h.b
  obtain ⟨a1, a2, a3, a4, a5, a6, a7, a8, a9⟩ := h
  have g : ∀ j, j ≠ 4 → j ≠ 5 → j ≠ 6 → M111.1 0 j = (rsM M8 x 4 b).1 0 j := fun j x1 x2 x3 => by
    rw [k3.2.2.2.1 j x1 x2 x3, f2.2.1 j x1 x2 x3, fmI_k _ _ (by omega), f1.2.1 j x1 x2 x3]
  refine ⟨k3.1, k3.2.1, ?_, a4, ?_, by omega, a7, ?_, a9⟩
  · rw [g 8 (by decide) (by decide) (by decide)]
    unfold rsM
    rw [fmI_k _ _ (by omega), fmI_j _ _ (by decide), fmI_j _ _ (by decide)]
    exact a3
  · rw [g 26 (by decide) (by decide) (by decide)]
    unfold rsM
    rw [fmI_k _ _ (by omega), fmI_s, fmI_j _ _ (by decide)]
    exact i32_p1 a5 (by omega)
  · rw [k3.2.2.1 4 0 (by decide), f2.1 4 0 (by decide), fmI_k _ _ (by omega), f1.1 4 0 (by decide)]
    unfold rsM
    rw [fmI_k _ _ (by omega), fmI_k _ _ (by decide), fmI_k _ _ (by decide)]
    exact a8
theorem rsM_fr8 {M : fmM} {x k : Int32} {b : Nat} (hb : b < 80) : srFr b M (rsM (fmI M 0 8 (M.1 0 8 + 1)) x k b) := ((srFr.refl b M).c0 (Or.inr (Or.inr (Or.inr (Or.inl rfl))))).trans (rsM_fr hb) (Nat.le_refl _)
theorem srBad.bl {M M1 : fmM} {tx : tX} {n k a b : Nat} {x : Int32} {q : Nat} (h : srBad M M1 tx n k a b) (hS : rS M1 tx n q) (hx : x.toInt = sk tx q) : srBad M (fmI M1 0 4 x) tx n k a b := ⟨⟨_, hS.bl hx⟩, h.2.1, h.2.2.1, h.2.2.2.1, h.2.2.2.2.c0 (Or.inl rfl)⟩
set_option maxRecDepth 20000 in
theorem rs5_4 {Q : fmR → fmM → Prop} {M : fmM} {tx : tX} {n a o b l f : Nat} {v2 : Option Value} (hL : srLp tx n l f) (hP : srPre M tx n a o b l) (h6 : o = 6 → ∀ M' : fmM, srBad M M' tx n 3 a b → Q (.inl none) M') (hne : ¬ o = 6 → ¬ spAg tx (fun q => spSt tx l f 1 (o + 1) (b + 1) q) b (sp tW tx a) = .inl (9, 0)) (hok : ¬ o = 6 → ∀ (M' : fmM) (ss : tS) (q' : Nat), spAg tx (fun q => spSt tx l f 1 (o + 1) (b + 1) q) b (sp tW tx a) = .inr (ss, q') → srOk M M' tx n q' b ss → Q (.inl none) M') (hbad : ¬ o = 6 → ∀ (M' : fmM) (k a' : Nat), spAg tx (fun q => spSt tx l f 1 (o + 1) (b + 1) q) b (sp tW tx a) = .inl (k, a') → srBad M M' tx n k a' b → Q (.inl none) M') : pvEv Tm (5 + (6 - o)) qX11_readsStep 5 [some (.ref 0), some (.int 4), v2] [] M Q := by
  refine pv_iloadn (pc := 5) (n := 1) 1 rfl rfl (fm_dec dtX11_readsStep 3 rfl) ?_
  refine pv_iconst (pc := 6) (v := (-1)) (by decide) (fm_dec dtX11_readsStep 4 rfl) ?_
  refine pv_icmp_ne (pc := 7) 19 (by decide) (fm_dec dtX11_readsStep 5 rfl) (fun _ => ?_) (fun hc7 => by exfalso; revert hc7; decide)
  refine pv_iloadn (pc := 19) (n := 1) 1 rfl rfl (fm_dec dtX11_readsStep 11 rfl) ?_
  refine pv_iconst (pc := 20) (v := 4) (by decide) (fm_dec dtX11_readsStep 12 rfl) ?_
  refine pv_icmp_ne (pc := 21) 32 (by decide) (fm_dec dtX11_readsStep 13 rfl) (fun hc21 => by exfalso; revert hc21; decide) (fun _ => ?_)
  refine pv_aloadn (pc := 24) (n := 0) 0 rfl rfl (fm_dec dtX11_readsStep 14 rfl) ?_
  refine pv_invV0 (k := 0) (d' := 1) (pc := 25) pcv_X11_227 (by decide) rfl (Nat.le_of_ble_eq_true rfl) (by omega) (fm_dec dtX11_readsStep 15 rfl) ?_
  refine c_opens hP.1 hP.2.1 hP.2.2.1 (fun h61 => ?_) (fun h61 => ?_)  
  · refine pv_then1 ?_
    refine pv_if_ne (pc := 28) 32 (by decide) (fm_dec dtX11_readsStep 16 rfl) (fun hc28 => by exfalso; revert hc28; decide) (fun _ => ?_)
    exact pv_return (pc := 31) rfl (fm_dec dtX11_readsStep 17 rfl) (h6 h61 _ (srBad.of (srFr.refl b M) (rdBad.at0 hP.1 (by decide) hP.1.2.1 (by decide))))
  · refine pv_then1 ?_
    refine pv_if_ne (pc := 28) 32 (by decide) (fm_dec dtX11_readsStep 16 rfl) (fun _ => ?_) (fun hc28 => by exfalso; revert hc28; decide)
    have ho5 : o < 6 := (by have := hP.2.2.2.1; omega)
    have hP8 := hP.in8 ho5
    refine pv_aloadn (pc := 32) (n := 0) 0 rfl rfl (fm_dec dtX11_readsStep 18 rfl) ?_
    refine pv_getI (k := 0) (j := 5) (ci := 11) (pc := 33) pfl_X11_117 (by decide) rfl (by decide) (fm_dec dtX11_readsStep 19 rfl) ?_
    refine pv_if_eq (pc := 36) 40 (by decide) (fm_dec dtX11_readsStep 20 rfl) (fun _ => ?_) (fun hc36 => by exfalso; exact hc36 hP.2.1)
    refine pv_aloadn (pc := 40) (n := 0) 0 rfl rfl (fm_dec dtX11_readsStep 22 rfl) ?_
    refine pv_invV0 (k := 0) (d' := 1) (pc := 41) pcv_X11_154 (by decide) rfl (Nat.le_of_ble_eq_true rfl) (by omega) (fm_dec dtX11_readsStep 23 rfl) ?_
    refine c_skipWord hP8.1 (fun x40 hx40 => ?_)
    refine pv_then0 ?_
    have hb80 := hP.b
    have hw40 := sp_le (p := a) tW_1 hP.1.2.2.2.1 hP.1.2.2.1
    refine pv_aloadn (pc := 44) (n := 0) 0 rfl rfl (fm_dec dtX11_readsStep 24 rfl) ?_
    refine pv_getR (k := 0) (j := 25) (ci := 11) (pc := 45) 24 rfl (by decide) pfl_X11_58 (by decide) rfl (by decide) (fm_dec dtX11_readsStep 25 rfl) ?_
    refine pv_aloadn (pc := 48) (n := 0) 0 rfl rfl (fm_dec dtX11_readsStep 26 rfl) ?_
    refine pv_getI (k := 0) (j := 26) (ci := 11) (pc := 49) pfl_X11_250 (by decide) rfl (by decide) (fm_dec dtX11_readsStep 27 rfl) ?_
    refine pv_aald (k := 24) (n := 80) (r := (423 + b)) (pc := 52) (by decide) (Or.inr (Or.inr rfl)) rfl (rw_step.inb hP8.2.2.2.2.1 hb80) (rw_step.at hP8.2.2.2.2.1 hb80) (rw_step.2.2.2 _ hb80).2.1 (fm_dec dtX11_readsStep 28 rfl) ?_
    refine pv_astoren (pc := 53) (n := 2) 2 rfl (by decide) rfl (fm_dec dtX11_readsStep 29 rfl) ?_
    dsimp only [List.set_cons_zero, List.set_cons_succ]
    refine pv_aloadn (pc := 54) (n := 0) 0 rfl rfl (fm_dec dtX11_readsStep 30 rfl) ?_
    refine pv_dup (pc := 55) rfl (fm_dec dtX11_readsStep 31 rfl) ?_
    refine pv_getI (k := 0) (j := 26) (ci := 11) (pc := 56) pfl_X11_250 (by decide) rfl (by decide) (fm_dec dtX11_readsStep 32 rfl) ?_
    refine pv_iconst (pc := 59) (v := 1) (by decide) (fm_dec dtX11_readsStep 33 rfl) ?_
    refine pv_iadd (pc := 60) (fm_dec dtX11_readsStep 34 rfl) ?_
    refine pv_putI (k := 0) (j := 26) (ci := 11) (pc := 61) pfl_X11_250 (by decide) rfl (by decide) (fm_dec dtX11_readsStep 35 rfl) ?_
    refine pv_aloadn (pc := 64) (n := 2) 2 rfl rfl (fm_dec dtX11_readsStep 36 rfl) ?_
    refine pv_iconst (pc := 65) (v := 0) (by decide) (fm_dec dtX11_readsStep 37 rfl) ?_
    refine pv_iloadn (pc := 66) (n := 1) 1 rfl rfl (fm_dec dtX11_readsStep 38 rfl) ?_
    refine pv_iast (k := (423 + b)) (n := 3) (pc := 67) (rw_step.2.2.2 _ hb80).2.2.1 (rw_step.2.2.2 _ hb80).2.2.2.1 (rw_step.2.2.2 _ hb80).2.2.2.2 (fm_inl (by decide)) (fm_dec dtX11_readsStep 39 rfl) ?_
    refine pv_iloadn (pc := 68) (n := 1) 1 rfl rfl (fm_dec dtX11_readsStep 40 rfl) ?_
    refine pv_iconst (pc := 69) (v := 3) (by decide) (fm_dec dtX11_readsStep 41 rfl) ?_
    refine pv_icmp_ge (pc := 70) 89 (by decide) (fm_dec dtX11_readsStep 42 rfl) (fun _ => ?_) (fun hc70 => by exfalso; revert hc70; decide)
    refine pv_iloadn (pc := 89) (n := 1) 1 rfl rfl (fm_dec dtX11_readsStep 55 rfl) ?_
    refine pv_iconst (pc := 90) (v := 4) (by decide) (fm_dec dtX11_readsStep 56 rfl) ?_
    refine pv_icmp_ne (pc := 91) 161 (by decide) (fm_dec dtX11_readsStep 57 rfl) (fun hc91 => by exfalso; revert hc91; decide) (fun _ => ?_)
    refine pv_aloadn (pc := 94) (n := 2) 2 rfl rfl (fm_dec dtX11_readsStep 58 rfl) ?_
    refine pv_iconst (pc := 95) (v := 1) (by decide) (fm_dec dtX11_readsStep 59 rfl) ?_
    refine pv_aloadn (pc := 96) (n := 0) 0 rfl rfl (fm_dec dtX11_readsStep 60 rfl) ?_
    refine pv_iconst (pc := 97) (v := 0) (by decide) (fm_dec dtX11_readsStep 61 rfl) ?_
    refine pv_bipush (pc := 98) (v := 20) (by decide) (fm_dec dtX11_readsStep 62 rfl) ?_
    refine pv_invV2 (k := 0) (d' := 2) (pc := 100) pcv_X11_163 (by decide) rfl (Nat.le_of_ble_eq_true rfl) (by omega) (fm_dec dtX11_readsStep 63 rfl) ?_
    refine r_num (M := rsM (fmI M 0 8 (M.1 0 8 + 1)) x40 4 b) (tx := tx) (n := n) (p := sp tW tx a) 0 20 ⟨by decide, by decide, by decide⟩ (rsM_S hP8 hx40 hw40).1 (rsM_S hP8 hx40 hw40).2 (fun M100 v100 q100 w100 e100 hw100 k100 => ?_) (fun Mb kb ab eb hB => ?_)  
    · refine pv_then1 ?_
      refine pv_iast (k := (423 + b)) (n := 3) (pc := 103) (rw_step.2.2.2 _ hb80).2.2.1 (rw_step.2.2.2 _ hb80).2.2.2.1 (rw_step.2.2.2 _ hb80).2.2.2.2 (fm_inl (by decide)) (fm_dec dtX11_readsStep 64 rfl) ?_
      refine pv_aloadn (pc := 104) (n := 0) 0 rfl rfl (fm_dec dtX11_readsStep 65 rfl) ?_
      refine pv_bipush (pc := 105) (v := 91) (by decide) (fm_dec dtX11_readsStep 66 rfl) ?_
      refine pv_invV1 (k := 0) (d' := 2) (pc := 107) pcv_X11_173 (by decide) rfl (Nat.le_of_ble_eq_true rfl) (by omega) (fm_dec dtX11_readsStep 67 rfl) ?_
      refine r_sign (M := fmI M100 (423 + b) 1 w100) (tx := tx) (n := n) (p := q100) 91 ⟨by decide, by decide⟩ (k100.1.row ⟨by omega, by omega⟩) (f0.row k100.2.1 (by omega)) (fun M107 q107 e107 k107 => ?_) (fun Mb kb ab eb hB => ?_)  
      · refine pv_then0 ?_
        refine pv_aloadn (pc := 110) (n := 0) 0 rfl rfl (fm_dec dtX11_readsStep 68 rfl) ?_
        refine pv_invV0 (k := 0) (d' := 1) (pc := 111) pcv_X11_123 (by decide) rfl (Nat.le_of_ble_eq_true rfl) (by omega) (fm_dec dtX11_readsStep 69 rfl) ?_
        refine r_blanks k107.1 k107.2.1 (fun M111 k111 => ?_)
        refine pv_then0 ?_
        have n1 := spNum_ok hP.1.2.2.2.1 hw40 e100
        have n2 := spSign_ok hP.1.2.2.2.1 n1.2.1 (by decide) e107
        have n3 : q107 ≤ sk tx q107 := sp_ge q107
        have n4 : a ≤ sp tW tx a := sp_ge a
        have hfr : srFr b M M111 := ((((rsM_fr8 hb80).rd k100.2.2).row ⟨Nat.le_refl _, by omega⟩).rd k107.2.2).rd k111.2.2
        have eA : spAg tx (fun q => spSt tx l f 1 (o + 1) (b + 1) q) b (sp tW tx a) = spBind (spSt tx l f 1 (o + 1) (b + 1) (sk tx q107)) fun ss q => spBind (spSign tx 93 q) fun _ q => spBind (spSign tx 59 q) fun _ q => .inr ((4, v100, b + 1 + ss.length) :: ss, q) := (by simp only [spAg, spBind, e100, e107])
        refine hL o (b + 1) (sk tx q107) (423 + b) M111 Q ho5 (hP8.in1 (by omega) k100.2.2 k107.2.2 k111) (fun h9 => hne h61 (by rw [eA, h9]; rfl)) (fun M145 ss q145 e145 k145 => ?_) (fun M145 kb ab eb hB => ?_)
        · refine rs_t0 hb80 hfr k145 (fun M148 M171 q148 q171 e148 f148 e171 k171 => ?_) (fun M9 kb ab hor h9 => ?_)
          · exact hok h61 M171 _ q171 (by rw [eA, e145]; simp only [spBind, e148, e171]) (rs_ag (o := o) (l := l) hb80 k100.2.2 k107.2.2 k111.2.2 k145 f148 k171.2.2 hw100 k171.1 k171.2.1)
          · rcases hor with e148 | ⟨q148, e148, e171⟩
            · exact hbad h61 M9 kb ab (by rw [eA, e145]; simp only [spBind, e148]) h9
            · exact hbad h61 M9 kb ab (by rw [eA, e145]; simp only [spBind, e148, e171]) h9
        · exact rs_t1 hb80 ⟨hB.1, hB.2.1, hB.2.2.1, hB.2.2.2.1, hfr.trans hB.2.2.2.2 (by omega)⟩ (fun M9 h9 => hbad h61 M9 kb ab (by rw [eA, eb]; rfl) h9)
      · refine pv_then0 ?_
        have hB9 := srBad.of (((rsM_fr8 hb80).rd k100.2.2).row ⟨Nat.le_refl _, by omega⟩) hB
        obtain ⟨qb, hSb⟩ := hB9.1
        refine pv_aloadn (pc := 110) (n := 0) 0 rfl rfl (fm_dec dtX11_readsStep 68 rfl) ?_
        refine pv_invV0 (k := 0) (d' := 1) (pc := 111) pcv_X11_123 (by decide) rfl (Nat.le_of_ble_eq_true rfl) (by omega) (fm_dec dtX11_readsStep 69 rfl) ?_
        refine c_blanks hSb (fun x111 hx111 => ?_)
        refine pv_then0 ?_
        exact rs_o1 (srBad.nz (hB9.bl hSb hx111)) (rs_t1 hb80 (hB9.bl hSb hx111) (fun M9 h9 => hbad h61 M9 kb ab (by simp only [spAg, spBind, e100, eb]) h9))
    · refine pv_then1 ?_
      have hB9 := srBad.of (rsM_fr8 hb80) hB
      refine pv_iast (k := (423 + b)) (n := 3) (pc := 103) (rw_step.2.2.2 _ hb80).2.2.1 (rw_step.2.2.2 _ hb80).2.2.2.1 (rw_step.2.2.2 _ hb80).2.2.2.2 (fm_inl (by decide)) (fm_dec dtX11_readsStep 64 rfl) ?_
      refine pv_aloadn (pc := 104) (n := 0) 0 rfl rfl (fm_dec dtX11_readsStep 65 rfl) ?_
      refine pv_bipush (pc := 105) (v := 91) (by decide) (fm_dec dtX11_readsStep 66 rfl) ?_
      refine pv_invV1 (k := 0) (d' := 2) (pc := 107) pcv_X11_173 (by decide) rfl (Nat.le_of_ble_eq_true rfl) (by omega) (fm_dec dtX11_readsStep 67 rfl) ?_
      refine c_sign1 (srBad.nz (M := M) (tx := tx) (n := n) (k := kb) (a := ab) (b := b) (srBad.row ⟨by omega, by omega⟩ hB9)) ?_
      refine pv_then0 ?_
      have hB8 := srBad.row (k := 423 + b) (j := 1) (x := 0) ⟨Nat.le_refl _, by omega⟩ hB9
      obtain ⟨qb, hSb⟩ := hB8.1
      refine pv_aloadn (pc := 110) (n := 0) 0 rfl rfl (fm_dec dtX11_readsStep 68 rfl) ?_
      refine pv_invV0 (k := 0) (d' := 1) (pc := 111) pcv_X11_123 (by decide) rfl (Nat.le_of_ble_eq_true rfl) (by omega) (fm_dec dtX11_readsStep 69 rfl) ?_
      refine c_blanks hSb (fun x111 hx111 => ?_)
      refine pv_then0 ?_
      exact rs_o1 (srBad.nz (hB8.bl hSb hx111)) (rs_t1 hb80 (hB8.bl hSb hx111) (fun M9 h9 => hbad h61 M9 kb ab (by simp only [spAg, spBind, eb]) h9))
theorem srPre.at0 {M : fmM} {x : Int32} {tx : tX} {n p o b l : Nat} (h : srPre M tx n p o b l) (hx : x.toInt = sk tx p) : srPre (fmI M 0 4 x) tx n (sk tx p) o b l := ⟨h.1.bl hx, h.2.1, h.2.2.1, h.2.2.2.1, h.2.2.2.2.1, (by have := sp_ge (P := tB) (tx := tx) p; have h9 := h.2.2.2.2.2.1; unfold sk; omega), h.2.2.2.2.2.2.1, (by rw [fmI_k _ _ (by decide)]; exact h.2.2.2.2.2.2.2.1), h.2.2.2.2.2.2.2.2⟩
theorem srFr.at0 {M : fmM} {x : Int32} {b : Nat} : srFr b M (fmI M 0 4 x) := (srFr.refl b M).c0 (Or.inl rfl)
theorem srOk.pre {M M' : fmM} {x : Int32} {tx : tX} {n q b : Nat} {ss : tS} (h : srOk (fmI M 0 4 x) M' tx n q b ss) : srOk M M' tx n q b ss := ⟨h.1, h.2.1, h.2.2.1.trans (by rw [fmI_j _ _ (by decide)]), h.2.2.2.1, h.2.2.2.2.1, srFr.at0.trans h.2.2.2.2.2 (Nat.le_refl _)⟩
theorem srBad.pre {M M' : fmM} {x : Int32} {tx : tX} {n k a b : Nat} (h : srBad (fmI M 0 4 x) M' tx n k a b) : srBad M M' tx n k a b := ⟨h.1, h.2.1, h.2.2.1, h.2.2.2.1, srFr.at0.trans h.2.2.2.2 (Nat.le_refl _)⟩
set_option maxRecDepth 20000 in
theorem rs_G {tx : tX} {n l f : Nat} (hL : srLp tx n l f) : srG tx n l (f + 1) := by
  intro o b p M Q hP hne hok hbad
  refine pvGood_of (Nat.le_of_ble_eq_true rfl) ?_
  show pvEv Tm (5 + (6 - o)) qX11_readsStep 0 [some (.ref 0), none, none] [] M Q
  refine pv_aloadn (pc := 0) (n := 0) 0 rfl rfl (fm_dec dtX11_readsStep 0 rfl) ?_
  refine pv_invV0 (k := 0) (d' := 4) (pc := 1) pcv_X11_247 (by decide) rfl (Nat.le_of_ble_eq_true rfl) (by omega) (fm_dec dtX11_readsStep 1 rfl) ?_
  refine c_stepHere hP.1 hP.2.1 (fun x1 e1 hx1 => ?_) (fun x1 e1 hx1 => ?_) (fun x1 e1 hx1 => ?_) (fun x1 e1 hx1 => ?_) (fun x1 e1 hx1 => ?_) (fun x1 e1 hx1 => ?_)
  · refine pv_then1 ?_
    refine pv_istoren (pc := 4) (n := 1) 1 rfl (by decide) rfl (fm_dec dtX11_readsStep 2 rfl) ?_
    dsimp only [List.set_cons_zero, List.set_cons_succ]
    have eS : spSt tx l (f + 1) 0 o b p = spSi tx l 0 b (sp tW tx (sk tx p)) := (by show spOneS _ _ _ _ _ _ = _; unfold spOneS; rw [e1]; rfl)
    exact rs5_0 (hP.at0 hx1) (fun M' ss q e h => hok M' ss q (eS.trans e) h.pre) (fun M' k a e h => hbad M' k a (eS.trans e) h.pre)
  · refine pv_then1 ?_
    refine pv_istoren (pc := 4) (n := 1) 1 rfl (by decide) rfl (fm_dec dtX11_readsStep 2 rfl) ?_
    dsimp only [List.set_cons_zero, List.set_cons_succ]
    have eS : spSt tx l (f + 1) 0 o b p = spSi tx l 1 b (sp tW tx (sk tx p)) := (by show spOneS _ _ _ _ _ _ = _; unfold spOneS; rw [e1]; rfl)
    exact rs5_1 (hP.at0 hx1) (fun M' ss q e h => hok M' ss q (eS.trans e) h.pre) (fun M' k a e h => hbad M' k a (eS.trans e) h.pre)
  · refine pv_then1 ?_
    refine pv_istoren (pc := 4) (n := 1) 1 rfl (by decide) rfl (fm_dec dtX11_readsStep 2 rfl) ?_
    dsimp only [List.set_cons_zero, List.set_cons_succ]
    have eS : spSt tx l (f + 1) 0 o b p = spSi tx l 2 b (sp tW tx (sk tx p)) := (by show spOneS _ _ _ _ _ _ = _; unfold spOneS; rw [e1]; rfl)
    exact rs5_2 (hP.at0 hx1) (fun M' ss q e h => hok M' ss q (eS.trans e) h.pre) (fun M' k a e h => hbad M' k a (eS.trans e) h.pre)
  · refine pv_then1 ?_
    refine pv_istoren (pc := 4) (n := 1) 1 rfl (by decide) rfl (fm_dec dtX11_readsStep 2 rfl) ?_
    dsimp only [List.set_cons_zero, List.set_cons_succ]
    have eS : spSt tx l (f + 1) 0 o b p = spWk tx b (sp tW tx (sk tx p)) := (by show spOneS _ _ _ _ _ _ = _; unfold spOneS; rw [e1]; rfl)
    exact rs5_3 (hP.at0 hx1) (fun M' ss q e h => hok M' ss q (eS.trans e) h.pre) (fun M' k a e h => hbad M' k a (eS.trans e) h.pre)
  · refine pv_then1 ?_
    refine pv_istoren (pc := 4) (n := 1) 1 rfl (by decide) rfl (fm_dec dtX11_readsStep 2 rfl) ?_
    dsimp only [List.set_cons_zero, List.set_cons_succ]
    have eS : spSt tx l (f + 1) 0 o b p = if o = 6 then .inl (3, sk tx p) else spAg tx (fun q => spSt tx l f 1 (o + 1) (b + 1) q) b (sp tW tx (sk tx p)) := (by show spOneS _ _ _ _ _ _ = _; unfold spOneS; rw [e1]; rfl)
    exact rs5_4 hL (hP.at0 hx1) (fun h6 M' h => hbad M' 3 _ (by rw [eS, if_pos h6]) h.pre) (fun h6 h9 => hne (by rw [eS, if_neg h6]; exact h9)) (fun h6 M' ss q e h => hok M' ss q (by rw [eS, if_neg h6]; exact e) h.pre) (fun h6 M' k a e h => hbad M' k a (by rw [eS, if_neg h6]; exact e) h.pre)
  · refine pv_then1 ?_
    refine pv_istoren (pc := 4) (n := 1) 1 rfl (by decide) rfl (fm_dec dtX11_readsStep 2 rfl) ?_
    dsimp only [List.set_cons_zero, List.set_cons_succ]
    have eS : spSt tx l (f + 1) 0 o b p = .inl (1, sk tx p) := (by show spOneS _ _ _ _ _ _ = _; unfold spOneS; rw [e1])
    exact rs5_n (hP.at0 hx1) (fun M' h => hbad M' 1 _ eS h.pre)
theorem rs_all {tx : tX} {n l : Nat} : ∀ f, srG tx n l f ∧ srLp tx n l f := by
  intro f
  induction f with
  | zero => exact ⟨fun o b p M Q hP hne => absurd rfl hne, fun o b p r0 M Q ho hP hne => absurd rfl hne⟩
  | succ f ih => exact ⟨rs_G ih.2, rs_loop ih.1 ih.2⟩
