-- THE REFERENCE READS WORKS
def stRep (M : fmM) (b : Nat) (ss : tS) : Prop := ∀ i s, ss[i]? = some s → (M.1 (423 + b + i) 0).toInt = s.1 ∧ (s.1 ≠ 3 → (M.1 (423 + b + i) 1).toInt = s.2.1) ∧ (M.1 (423 + b + i) 2).toInt = s.2.2
def srFr (b : Nat) (M M' : fmM) : Prop := (∀ k j, k ≠ 0 → ¬ (423 + b ≤ k ∧ k < 503) → M'.1 k j = M.1 k j) ∧ (∀ j, j ≠ 4 → j ≠ 5 → j ≠ 6 → j ≠ 8 → j ≠ 26 → M'.1 0 j = M.1 0 j) ∧ M'.2 = M.2
def srOk (M M' : fmM) (tx : tX) (n q b : Nat) (ss : tS) : Prop := rS M' tx n q ∧ M'.1 0 5 = 0 ∧ M'.1 0 8 = M.1 0 8 ∧ (M'.1 0 26).toInt = ((b + ss.length : Nat) : Int) ∧ stRep M' b ss ∧ srFr b M M'
def srBad (M M' : fmM) (tx : tX) (n k a b : Nat) : Prop := (∃ q, rS M' tx n q) ∧ (M'.1 0 5).toInt = k ∧ (M'.1 0 6).toInt = a ∧ k ≠ 0 ∧ srFr b M M'
def srPre (M : fmM) (tx : tX) (n p o b l : Nat) : Prop := rS M tx n p ∧ M.1 0 5 = 0 ∧ (M.1 0 8).toInt = o ∧ o ≤ 6 ∧ (M.1 0 26).toInt = b ∧ 2 * b ≤ p ∧ n ≤ 150 ∧ (M.1 4 0).toInt = l ∧ l ≤ 8
theorem srFr.refl (b : Nat) (M : fmM) : srFr b M M := ⟨fun _ _ _ _ => rfl, fun _ _ _ _ _ _ => rfl, rfl⟩
theorem srFr.rd {b : Nat} {M M1 M2 : fmM} (h : srFr b M M1) (h' : rdFr M1 M2) : srFr b M M2 := ⟨fun k j a c => (h'.1 k j a).trans (h.1 k j a c), fun j a b c d e => (h'.2.1 j a b c).trans (h.2.1 j a b c d e), h'.2.2.trans h.2.2⟩
theorem srFr.trans {b b' : Nat} {M M1 M2 : fmM} (h : srFr b M M1) (h' : srFr b' M1 M2) (hb : b ≤ b') : srFr b M M2 := ⟨fun k j a c => (h'.1 k j a (by omega)).trans (h.1 k j a c), fun j a b c d e => (h'.2.1 j a b c d e).trans (h.2.1 j a b c d e), h'.2.2.trans h.2.2⟩
theorem srFr.row {b k j : Nat} {M M1 : fmM} {x : Int32} (h : srFr b M M1) (hk : 423 + b ≤ k ∧ k < 503) : srFr b M (fmI M1 k j x) := by
  refine ⟨fun k' j' a c => ?_, fun j' a b c d e => ?_, h.2.2⟩
  · rw [fmI_k _ _ (by omega)]
    exact h.1 k' j' a c
  · rw [fmI_k _ _ (by omega)]
    exact h.2.1 j' a b c d e
theorem srFr.c0 {b j : Nat} {M M1 : fmM} {x : Int32} (h : srFr b M M1) (hj : j = 4 ∨ j = 5 ∨ j = 6 ∨ j = 8 ∨ j = 26) : srFr b M (fmI M1 0 j x) := by
  refine ⟨fun k' j' a c => ?_, fun j' a b c d e => ?_, h.2.2⟩
  · rw [fmI_k _ _ a]
    exact h.1 k' j' a c
  · rw [fmI_j _ _ (by omega)]
    exact h.2.1 j' a b c d e
theorem srBad.nz {M M' : fmM} {tx : tX} {n k a b : Nat} (h : srBad M M' tx n k a b) : ¬ M'.1 0 5 = 0 := by
  intro e
  have h1 := h.2.1
  rw [e] at h1
  have e0 : (0 : Int32).toInt = 0 := by decide
  have := h.2.2.2.1
  omega
theorem srBad.row {M M1 : fmM} {tx : tX} {n kf a b k j : Nat} {x : Int32} (hk : 423 + b ≤ k ∧ k < 503) (h : srBad M M1 tx n kf a b) : srBad M (fmI M1 k j x) tx n kf a b := by
  obtain ⟨⟨q, h1⟩, h2, h3, h4, h5⟩ := h
  have e : ∀ j', (fmI M1 k j x).1 0 j' = M1.1 0 j' := fun j' => by rw [fmI_k _ _ (by omega)]
  refine ⟨⟨q, h1.of (e 2) (e 4) ?_⟩, by rw [e]; exact h2, by rw [e]; exact h3, h4, h5.row hk⟩
  rw [fmI_k _ _ (by omega)]
theorem srBad.c8 {M M1 : fmM} {tx : tX} {n kf a b : Nat} {x : Int32} (h : srBad M M1 tx n kf a b) : srBad M (fmI M1 0 8 x) tx n kf a b := by
  obtain ⟨⟨q, h1⟩, h2, h3, h4, h5⟩ := h
  exact ⟨⟨q, h1.of rfl rfl rfl⟩, h2, h3, h4, h5.c0 (by omega)⟩
theorem srBad.of {b : Nat} {M M1 M2 : fmM} {tx : tX} {n k a : Nat} (h : srFr b M M1) (hB : rdBad M1 M2 tx n k a) : srBad M M2 tx n k a b := ⟨hB.1, hB.2.1, hB.2.2.1, hB.2.2.2.1, h.rd hB.2.2.2.2⟩
set_option maxRecDepth 20000 in
theorem c_stepHere {M : fmM} {Q : fmR → fmM → Prop} {tx : tX} {n p : Nat} (hS : rS M tx n p) (hf : M.1 0 5 = 0) (h_0 : ∀ x : Int32, stK (wd tx (sk tx p)) = some 0 → x.toInt = sk tx p → Q (.inl (some (.int 0))) (fmI M 0 4 x)) (h_1 : ∀ x : Int32, stK (wd tx (sk tx p)) = some 1 → x.toInt = sk tx p → Q (.inl (some (.int 1))) (fmI M 0 4 x)) (h_2 : ∀ x : Int32, stK (wd tx (sk tx p)) = some 2 → x.toInt = sk tx p → Q (.inl (some (.int 2))) (fmI M 0 4 x)) (h_3 : ∀ x : Int32, stK (wd tx (sk tx p)) = some 3 → x.toInt = sk tx p → Q (.inl (some (.int 3))) (fmI M 0 4 x)) (h_4 : ∀ x : Int32, stK (wd tx (sk tx p)) = some 4 → x.toInt = sk tx p → Q (.inl (some (.int 4))) (fmI M 0 4 x)) (hn : ∀ x : Int32, stK (wd tx (sk tx p)) = none → x.toInt = sk tx p → Q (.inl (some (.int (-1)))) (fmI M 0 4 x)) : pvGood Tm 4 qX11_stepHere [.ref 0] M Q := by
  refine pvGood_of (Nat.le_of_ble_eq_true rfl) ?_
  show pvEv Tm 4 qX11_stepHere 0 [some (.ref 0)] [] M Q
  refine pv_aloadn (pc := 0) (n := 0) 0 rfl rfl (fm_dec dtX11_stepHere 0 rfl) ?_
  refine pv_bipush (pc := 1) (v := 23) (by decide) (fm_dec dtX11_stepHere 1 rfl) ?_
  refine pv_bipush (pc := 3) (v := 18) (by decide) (fm_dec dtX11_stepHere 2 rfl) ?_
  refine pv_bipush (pc := 5) (v := 9) (by decide) (fm_dec dtX11_stepHere 3 rfl) ?_
  refine pv_bipush (pc := 7) (v := 20) (by decide) (fm_dec dtX11_stepHere 4 rfl) ?_
  refine pv_iconst (pc := 9) (v := 5) (by decide) (fm_dec dtX11_stepHere 5 rfl) ?_
  refine pv_invV5 (k := 0) (d' := 3) (pc := 10) pcv_X11_150 (by decide) rfl (Nat.le_of_ble_eq_true rfl) (by decide) (fm_dec dtX11_stepHere 6 rfl) ?_
  refine c_isWord [119, 114, 105, 116, 101] ⟨by decide, by decide, by decide⟩ hS hf (fun x10 e10 hx10 => ?_) (fun x10 e10 hx10 => ?_)
  · refine pv_then1 ?_
    refine pv_if_eq (pc := 13) 18 (by decide) (fm_dec dtX11_stepHere 7 rfl) (fun hc13 => by exfalso; revert hc13; decide) (fun _ => ?_)
    refine pv_iconst (pc := 16) (v := 0) (by decide) (fm_dec dtX11_stepHere 8 rfl) ?_
    exact pv_ireturn (pc := 17) rfl (fm_dec dtX11_stepHere 9 rfl) (by (try simp only [fmI_fmI]); exact h_0 x10 (by unfold stK; rw [if_pos e10]) hx10)
  · refine pv_then1 ?_
    refine pv_if_eq (pc := 13) 18 (by decide) (fm_dec dtX11_stepHere 7 rfl) (fun _ => ?_) (fun hc13 => by exfalso; revert hc13; decide)
    have hS1 := hS.set hx10 (hS.bl hx10).2.2.1
    refine pv_aloadn (pc := 18) (n := 0) 0 rfl rfl (fm_dec dtX11_stepHere 10 rfl) ?_
    refine pv_bipush (pc := 19) (v := 18) (by decide) (fm_dec dtX11_stepHere 11 rfl) ?_
    refine pv_iconst (pc := 21) (v := 5) (by decide) (fm_dec dtX11_stepHere 12 rfl) ?_
    refine pv_bipush (pc := 22) (v := 14) (by decide) (fm_dec dtX11_stepHere 13 rfl) ?_
    refine pv_iconst (pc := 24) (v := 5) (by decide) (fm_dec dtX11_stepHere 14 rfl) ?_
    refine pv_bipush (pc := 25) (v := 23) (by decide) (fm_dec dtX11_stepHere 15 rfl) ?_
    refine pv_invV5 (k := 0) (d' := 3) (pc := 27) pcv_X11_150 (by decide) rfl (Nat.le_of_ble_eq_true rfl) (by decide) (fm_dec dtX11_stepHere 16 rfl) ?_
    refine c_isWord [114, 101, 110, 101, 119] ⟨by decide, by decide, by decide⟩ hS1 hf (fun x27 e27 hx27 => ?_) (fun x27 e27 hx27 => ?_)
    · refine pv_then1 ?_
      refine pv_if_eq (pc := 30) 35 (by decide) (fm_dec dtX11_stepHere 17 rfl) (fun hc30 => by exfalso; revert hc30; decide) (fun _ => ?_)
      refine pv_iconst (pc := 33) (v := 1) (by decide) (fm_dec dtX11_stepHere 18 rfl) ?_
      exact pv_ireturn (pc := 34) rfl (fm_dec dtX11_stepHere 19 rfl) (by rw [sk_sk hS.2.2.2.1 hS.2.2.1] at e27 hx27; (try simp only [fmI_fmI]); exact h_1 x27 (by unfold stK; rw [if_neg e10]; rw [if_pos e27]) hx27)
    · refine pv_then1 ?_
      refine pv_if_eq (pc := 30) 35 (by decide) (fm_dec dtX11_stepHere 17 rfl) (fun _ => ?_) (fun hc30 => by exfalso; revert hc30; decide)
      rw [sk_sk hS.2.2.2.1 hS.2.2.1] at e27 hx27
      have hS2 := hS1.set hx27 hS1.2.2.1
      refine pv_aloadn (pc := 35) (n := 0) 0 rfl rfl (fm_dec dtX11_stepHere 20 rfl) ?_
      refine pv_iconst (pc := 36) (v := 4) (by decide) (fm_dec dtX11_stepHere 21 rfl) ?_
      refine pv_bipush (pc := 37) (v := 9) (by decide) (fm_dec dtX11_stepHere 22 rfl) ?_
      refine pv_iconst (pc := 39) (v := 5) (by decide) (fm_dec dtX11_stepHere 23 rfl) ?_
      refine pv_iconst (pc := 40) (v := 0) (by decide) (fm_dec dtX11_stepHere 24 rfl) ?_
      refine pv_iconst (pc := 41) (v := 0) (by decide) (fm_dec dtX11_stepHere 25 rfl) ?_
      refine pv_invV5 (k := 0) (d' := 3) (pc := 42) pcv_X11_150 (by decide) rfl (Nat.le_of_ble_eq_true rfl) (by decide) (fm_dec dtX11_stepHere 26 rfl) ?_
      refine c_isWord [100, 105, 101] ⟨by decide, by decide, by decide⟩ hS2 hf (fun x42 e42 hx42 => ?_) (fun x42 e42 hx42 => ?_)
      · refine pv_then1 ?_
        refine pv_if_eq (pc := 45) 50 (by decide) (fm_dec dtX11_stepHere 27 rfl) (fun hc45 => by exfalso; revert hc45; decide) (fun _ => ?_)
        refine pv_iconst (pc := 48) (v := 2) (by decide) (fm_dec dtX11_stepHere 28 rfl) ?_
        exact pv_ireturn (pc := 49) rfl (fm_dec dtX11_stepHere 29 rfl) (by rw [sk_sk hS.2.2.2.1 hS.2.2.1] at e42 hx42; (try simp only [fmI_fmI]); exact h_2 x42 (by unfold stK; rw [if_neg e10]; rw [if_neg e27]; rw [if_pos e42]) hx42)
      · refine pv_then1 ?_
        refine pv_if_eq (pc := 45) 50 (by decide) (fm_dec dtX11_stepHere 27 rfl) (fun _ => ?_) (fun hc45 => by exfalso; revert hc45; decide)
        rw [sk_sk hS.2.2.2.1 hS.2.2.1] at e42 hx42
        have hS3 := hS2.set hx42 hS1.2.2.1
        refine pv_aloadn (pc := 50) (n := 0) 0 rfl rfl (fm_dec dtX11_stepHere 30 rfl) ?_
        refine pv_bipush (pc := 51) (v := 23) (by decide) (fm_dec dtX11_stepHere 31 rfl) ?_
        refine pv_iconst (pc := 53) (v := 5) (by decide) (fm_dec dtX11_stepHere 32 rfl) ?_
        refine pv_iconst (pc := 54) (v := 5) (by decide) (fm_dec dtX11_stepHere 33 rfl) ?_
        refine pv_bipush (pc := 55) (v := 11) (by decide) (fm_dec dtX11_stepHere 34 rfl) ?_
        refine pv_iconst (pc := 57) (v := 0) (by decide) (fm_dec dtX11_stepHere 35 rfl) ?_
        refine pv_invV5 (k := 0) (d' := 3) (pc := 58) pcv_X11_150 (by decide) rfl (Nat.le_of_ble_eq_true rfl) (by decide) (fm_dec dtX11_stepHere 36 rfl) ?_
        refine c_isWord [119, 101, 101, 107] ⟨by decide, by decide, by decide⟩ hS3 hf (fun x58 e58 hx58 => ?_) (fun x58 e58 hx58 => ?_)
        · refine pv_then1 ?_
          refine pv_if_eq (pc := 61) 66 (by decide) (fm_dec dtX11_stepHere 37 rfl) (fun hc61 => by exfalso; revert hc61; decide) (fun _ => ?_)
          refine pv_iconst (pc := 64) (v := 3) (by decide) (fm_dec dtX11_stepHere 38 rfl) ?_
          exact pv_ireturn (pc := 65) rfl (fm_dec dtX11_stepHere 39 rfl) (by rw [sk_sk hS.2.2.2.1 hS.2.2.1] at e58 hx58; (try simp only [fmI_fmI]); exact h_3 x58 (by unfold stK; rw [if_neg e10]; rw [if_neg e27]; rw [if_neg e42]; rw [if_pos e58]) hx58)
        · refine pv_then1 ?_
          refine pv_if_eq (pc := 61) 66 (by decide) (fm_dec dtX11_stepHere 37 rfl) (fun _ => ?_) (fun hc61 => by exfalso; revert hc61; decide)
          rw [sk_sk hS.2.2.2.1 hS.2.2.1] at e58 hx58
          have hS4 := hS3.set hx58 hS1.2.2.1
          refine pv_aloadn (pc := 66) (n := 0) 0 rfl rfl (fm_dec dtX11_stepHere 40 rfl) ?_
          refine pv_iconst (pc := 67) (v := 1) (by decide) (fm_dec dtX11_stepHere 41 rfl) ?_
          refine pv_bipush (pc := 68) (v := 7) (by decide) (fm_dec dtX11_stepHere 42 rfl) ?_
          refine pv_iconst (pc := 70) (v := 1) (by decide) (fm_dec dtX11_stepHere 43 rfl) ?_
          refine pv_bipush (pc := 71) (v := 9) (by decide) (fm_dec dtX11_stepHere 44 rfl) ?_
          refine pv_bipush (pc := 73) (v := 14) (by decide) (fm_dec dtX11_stepHere 45 rfl) ?_
          refine pv_invV5 (k := 0) (d' := 3) (pc := 75) pcv_X11_150 (by decide) rfl (Nat.le_of_ble_eq_true rfl) (by decide) (fm_dec dtX11_stepHere 46 rfl) ?_
          refine c_isWord [97, 103, 97, 105, 110] ⟨by decide, by decide, by decide⟩ hS4 hf (fun x75 e75 hx75 => ?_) (fun x75 e75 hx75 => ?_)
          · refine pv_then1 ?_
            refine pv_if_eq (pc := 78) 85 (by decide) (fm_dec dtX11_stepHere 47 rfl) (fun hc78 => by exfalso; revert hc78; decide) (fun _ => ?_)
            refine pv_iconst (pc := 81) (v := 4) (by decide) (fm_dec dtX11_stepHere 48 rfl) ?_
            refine pv_goto (pc := 82) 86 (by decide) (fm_dec dtX11_stepHere 49 rfl) ?_
            exact pv_ireturn (pc := 86) rfl (fm_dec dtX11_stepHere 51 rfl) (by rw [sk_sk hS.2.2.2.1 hS.2.2.1] at e75 hx75; (try simp only [fmI_fmI]); first | exact h_4 x75 (by unfold stK; rw [if_neg e10]; rw [if_neg e27]; rw [if_neg e42]; rw [if_neg e58]; rw [if_pos e75]) hx75 | exact hn x75 (by unfold stK; rw [if_neg e10, if_neg e27, if_neg e42, if_neg e58, if_neg e75]) hx75)
          · refine pv_then1 ?_
            refine pv_if_eq (pc := 78) 85 (by decide) (fm_dec dtX11_stepHere 47 rfl) (fun _ => ?_) (fun hc78 => by exfalso; revert hc78; decide)
            refine pv_iconst (pc := 85) (v := (-1)) (by decide) (fm_dec dtX11_stepHere 50 rfl) ?_
            exact pv_ireturn (pc := 86) rfl (fm_dec dtX11_stepHere 51 rfl) (by rw [sk_sk hS.2.2.2.1 hS.2.2.1] at e75 hx75; (try simp only [fmI_fmI]); first | exact h_4 x75 (by unfold stK; rw [if_neg e10]; rw [if_neg e27]; rw [if_neg e42]; rw [if_neg e58]; rw [if_pos e75]) hx75 | exact hn x75 (by unfold stK; rw [if_neg e10, if_neg e27, if_neg e42, if_neg e58, if_neg e75]) hx75)
