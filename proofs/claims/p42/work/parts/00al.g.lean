-- P 11j
section
-- THE REFERENCE READS A CLAUSE
def clI (M0 M : fmM) : Prop := clFr M0 M ∧ M.1 0 7 = M0.1 0 7 + 1
theorem clI.rd {M M1 M2 : fmM} (h : clI M M1) (h' : rdFr M1 M2) : clI M M2 := ⟨h.1.rd h', (h'.2.1 7 (by decide) (by decide) (by decide)).trans h.2⟩
theorem clI.row {M M1 : fmM} {k j : Nat} {x : Int32} (h : clI M M1) (hk : k = 3 ∨ (27 ≤ k ∧ k < 35) ∨ (43 ≤ k ∧ k < 67)) : clI M (fmI M1 k j x) := ⟨h.1.row hk, by rw [fmI_k _ _ (by omega)]; exact h.2⟩
theorem clI.at0 {M : fmM} {x : Int32} : clI M (fmI (fmI M 0 4 x) 0 7 ((fmI M 0 4 x).1 0 7 + 1)) := by
  refine ⟨⟨fun k' j' a b c d => ?_, fun j' a b c d => ?_, rfl⟩, ?_⟩
  · rw [fmI_k _ _ a, fmI_k _ _ a]
  · rw [fmI_j _ _ d, fmI_j _ _ a]
  · rw [fmI_s, fmI_j _ _ (by decide)]
theorem dRep.at0 {M : fmM} {D : dD} {j : Nat} {x : Int32} (h : dRep M D) : dRep (fmI M 0 j x) D := by
  obtain ⟨h1, h2, h3, h4, h5⟩ := h
  refine ⟨?_, ?_, fun k a b => ?_, fun i hi j hj => ?_, fun i hi j hj => ?_⟩
  · rw [fmI_k _ _ (by decide)]; exact h1
  · rw [fmI_k _ _ (by decide)]; exact h2
  · rw [fmI_k _ _ (by decide)]; exact h3 k a b
  · rw [fmI_k _ _ (by omega)]; exact h4 i hi j hj
  · rw [fmI_k _ _ (by omega)]; exact h5 i hi j hj
theorem spNum_sk {tx : tX} {n q : Nat} {lo hi : Int} (ht : tOk tx n) (hq : q ≤ n) : spNum tx lo hi (sk tx q) = spNum tx lo hi q := by
  unfold spNum
  rw [sk_sk ht hq]
theorem lh_hi {x : Int32} {l : Nat} (h : x.toInt = l) (hl : l ≤ 8) : (x - 1).toInt = (l : Int) - 1 := by
  have e1 : (1 : Int32).toInt = 1 := by decide
  rw [Int32.toInt_sub, e1, h]
  exact Int.bmod_eq_of_le (by omega) (by omega)
theorem ne60 {x : Int32} {c : Nat} (h : x.toInt = c) (hc : ¬ x = 60) : ¬ c = 60 := fun e => hc (i32_ext (by rw [h, e]; decide))
theorem eq60 {x : Int32} {c : Nat} (h : x.toInt = c) (hc : x = 60) : c = 60 := by
  have e1 : (60 : Int32).toInt = 60 := by decide
  rw [hc, e1] at h
  omega
theorem ne8 {x : Int32} {c : Nat} (h : x.toInt = c) (hc : ¬ x = 8) : ¬ c = 8 := fun e => hc (i32_ext (by rw [h, e]; decide))
theorem eq8 {x : Int32} {c : Nat} (h : x.toInt = c) (hc : x = 8) : c = 8 := by
  have e1 : (8 : Int32).toInt = 8 := by decide
  rw [hc, e1] at h
  omega
theorem ne24 {x : Int32} {c : Nat} (h : x.toInt = c) (hc : ¬ x = 24) : ¬ c = 24 := fun e => hc (i32_ext (by rw [h, e]; decide))
theorem eq24 {x : Int32} {c : Nat} (h : x.toInt = c) (hc : x = 24) : c = 24 := by
  have e1 : (24 : Int32).toInt = 24 := by decide
  rw [hc, e1] at h
  omega
set_option maxRecDepth 20000 in
theorem c_kindHere {M : fmM} {Q : fmR → fmM → Prop} {tx : tX} {n p : Nat} (hS : rS M tx n p) (hf : M.1 0 5 = 0) (h_0 : ∀ x : Int32, dwK (wd tx (sk tx p)) = some 0 → x.toInt = sk tx p → Q (.inl (some (.int 0))) (fmI M 0 4 x)) (h_1 : ∀ x : Int32, dwK (wd tx (sk tx p)) = some 1 → x.toInt = sk tx p → Q (.inl (some (.int 1))) (fmI M 0 4 x)) (h_2 : ∀ x : Int32, dwK (wd tx (sk tx p)) = some 2 → x.toInt = sk tx p → Q (.inl (some (.int 2))) (fmI M 0 4 x)) (h_3 : ∀ x : Int32, dwK (wd tx (sk tx p)) = some 3 → x.toInt = sk tx p → Q (.inl (some (.int 3))) (fmI M 0 4 x)) (h_4 : ∀ x : Int32, dwK (wd tx (sk tx p)) = some 4 → x.toInt = sk tx p → Q (.inl (some (.int 4))) (fmI M 0 4 x)) (h_5 : ∀ x : Int32, dwK (wd tx (sk tx p)) = some 5 → x.toInt = sk tx p → Q (.inl (some (.int 5))) (fmI M 0 4 x)) (h_6 : ∀ x : Int32, dwK (wd tx (sk tx p)) = some 6 → x.toInt = sk tx p → Q (.inl (some (.int 6))) (fmI M 0 4 x)) (h_7 : ∀ x : Int32, dwK (wd tx (sk tx p)) = some 7 → x.toInt = sk tx p → Q (.inl (some (.int 7))) (fmI M 0 4 x)) (hn : ∀ x : Int32, dwK (wd tx (sk tx p)) = none → x.toInt = sk tx p → Q (.inl (some (.int (-1)))) (fmI M 0 4 x)) : pvGood Tm 4 qX11_kindHere [.ref 0] M Q := by
  refine pvGood_of (Nat.le_of_ble_eq_true rfl) ?_
  show pvEv Tm 4 qX11_kindHere 0 [some (.ref 0)] [] M Q
  refine pv_aloadn (pc := 0) (n := 0) 0 rfl rfl (fm_dec dtX11_kindHere 0 rfl) ?_
  refine pv_bipush (pc := 1) (v := 12) (by decide) (fm_dec dtX11_kindHere 1 rfl) ?_
  refine pv_bipush (pc := 3) (v := 9) (by decide) (fm_dec dtX11_kindHere 2 rfl) ?_
  refine pv_bipush (pc := 5) (v := 6) (by decide) (fm_dec dtX11_kindHere 3 rfl) ?_
  refine pv_iconst (pc := 7) (v := 5) (by decide) (fm_dec dtX11_kindHere 4 rfl) ?_
  refine pv_iconst (pc := 8) (v := 0) (by decide) (fm_dec dtX11_kindHere 5 rfl) ?_
  refine pv_invV5 (k := 0) (d' := 3) (pc := 9) pcv_X11_150 (by decide) rfl (Nat.le_of_ble_eq_true rfl) (by decide) (fm_dec dtX11_kindHere 6 rfl) ?_
  refine c_isWord [108, 105, 102, 101] ⟨by decide, by decide, by decide⟩ hS hf (fun x9 e9 hx9 => ?_) (fun x9 e9 hx9 => ?_)
  · refine pv_then1 ?_
    refine pv_if_eq (pc := 12) 17 (by decide) (fm_dec dtX11_kindHere 7 rfl) (fun hc12 => by exfalso; revert hc12; decide) (fun _ => ?_)
    refine pv_iconst (pc := 15) (v := 0) (by decide) (fm_dec dtX11_kindHere 8 rfl) ?_
    exact pv_ireturn (pc := 16) rfl (fm_dec dtX11_kindHere 9 rfl) (by (try simp only [fmI_fmI]); exact h_0 x9 (by unfold dwK; rw [if_pos e9]) hx9)
  · refine pv_then1 ?_
    refine pv_if_eq (pc := 12) 17 (by decide) (fm_dec dtX11_kindHere 7 rfl) (fun _ => ?_) (fun hc12 => by exfalso; revert hc12; decide)
    have hS1 := hS.set hx9 (hS.bl hx9).2.2.1
    refine pv_aloadn (pc := 17) (n := 0) 0 rfl rfl (fm_dec dtX11_kindHere 10 rfl) ?_
    refine pv_bipush (pc := 18) (v := 6) (by decide) (fm_dec dtX11_kindHere 11 rfl) ?_
    refine pv_iconst (pc := 20) (v := 1) (by decide) (fm_dec dtX11_kindHere 12 rfl) ?_
    refine pv_iconst (pc := 21) (v := 3) (by decide) (fm_dec dtX11_kindHere 13 rfl) ?_
    refine pv_bipush (pc := 22) (v := 20) (by decide) (fm_dec dtX11_kindHere 14 rfl) ?_
    refine pv_iconst (pc := 24) (v := 0) (by decide) (fm_dec dtX11_kindHere 15 rfl) ?_
    refine pv_invV5 (k := 0) (d' := 3) (pc := 25) pcv_X11_150 (by decide) rfl (Nat.le_of_ble_eq_true rfl) (by decide) (fm_dec dtX11_kindHere 16 rfl) ?_
    refine c_isWord [102, 97, 99, 116] ⟨by decide, by decide, by decide⟩ hS1 hf (fun x25 e25 hx25 => ?_) (fun x25 e25 hx25 => ?_)
    · refine pv_then1 ?_
      refine pv_if_eq (pc := 28) 33 (by decide) (fm_dec dtX11_kindHere 17 rfl) (fun hc28 => by exfalso; revert hc28; decide) (fun _ => ?_)
      refine pv_iconst (pc := 31) (v := 1) (by decide) (fm_dec dtX11_kindHere 18 rfl) ?_
      exact pv_ireturn (pc := 32) rfl (fm_dec dtX11_kindHere 19 rfl) (by rw [sk_sk hS.2.2.2.1 hS.2.2.1] at e25 hx25; (try simp only [fmI_fmI]); exact h_1 x25 (by unfold dwK; rw [if_neg e9]; rw [if_pos e25]) hx25)
    · refine pv_then1 ?_
      refine pv_if_eq (pc := 28) 33 (by decide) (fm_dec dtX11_kindHere 17 rfl) (fun _ => ?_) (fun hc28 => by exfalso; revert hc28; decide)
      rw [sk_sk hS.2.2.2.1 hS.2.2.1] at e25 hx25
      have hS2 := hS1.set hx25 hS1.2.2.1
      refine pv_aloadn (pc := 33) (n := 0) 0 rfl rfl (fm_dec dtX11_kindHere 20 rfl) ?_
      refine pv_bipush (pc := 34) (v := 8) (by decide) (fm_dec dtX11_kindHere 21 rfl) ?_
      refine pv_bipush (pc := 36) (v := 15) (by decide) (fm_dec dtX11_kindHere 22 rfl) ?_
      refine pv_bipush (pc := 38) (v := 21) (by decide) (fm_dec dtX11_kindHere 23 rfl) ?_
      refine pv_bipush (pc := 40) (v := 18) (by decide) (fm_dec dtX11_kindHere 24 rfl) ?_
      refine pv_bipush (pc := 42) (v := 19) (by decide) (fm_dec dtX11_kindHere 25 rfl) ?_
      refine pv_invV5 (k := 0) (d' := 3) (pc := 44) pcv_X11_150 (by decide) rfl (Nat.le_of_ble_eq_true rfl) (by decide) (fm_dec dtX11_kindHere 26 rfl) ?_
      refine c_isWord [104, 111, 117, 114, 115] ⟨by decide, by decide, by decide⟩ hS2 hf (fun x44 e44 hx44 => ?_) (fun x44 e44 hx44 => ?_)
      · refine pv_then1 ?_
        refine pv_if_eq (pc := 47) 52 (by decide) (fm_dec dtX11_kindHere 27 rfl) (fun hc47 => by exfalso; revert hc47; decide) (fun _ => ?_)
        refine pv_iconst (pc := 50) (v := 2) (by decide) (fm_dec dtX11_kindHere 28 rfl) ?_
        exact pv_ireturn (pc := 51) rfl (fm_dec dtX11_kindHere 29 rfl) (by rw [sk_sk hS.2.2.2.1 hS.2.2.1] at e44 hx44; (try simp only [fmI_fmI]); exact h_2 x44 (by unfold dwK; rw [if_neg e9]; rw [if_neg e25]; rw [if_pos e44]) hx44)
      · refine pv_then1 ?_
        refine pv_if_eq (pc := 47) 52 (by decide) (fm_dec dtX11_kindHere 27 rfl) (fun _ => ?_) (fun hc47 => by exfalso; revert hc47; decide)
        rw [sk_sk hS.2.2.2.1 hS.2.2.1] at e44 hx44
        have hS3 := hS2.set hx44 hS1.2.2.1
        refine pv_aloadn (pc := 52) (n := 0) 0 rfl rfl (fm_dec dtX11_kindHere 30 rfl) ?_
        refine pv_bipush (pc := 53) (v := 12) (by decide) (fm_dec dtX11_kindHere 31 rfl) ?_
        refine pv_iconst (pc := 55) (v := 1) (by decide) (fm_dec dtX11_kindHere 32 rfl) ?_
        refine pv_iconst (pc := 56) (v := 3) (by decide) (fm_dec dtX11_kindHere 33 rfl) ?_
        refine pv_bipush (pc := 57) (v := 11) (by decide) (fm_dec dtX11_kindHere 34 rfl) ?_
        refine pv_iconst (pc := 59) (v := 0) (by decide) (fm_dec dtX11_kindHere 35 rfl) ?_
        refine pv_invV5 (k := 0) (d' := 3) (pc := 60) pcv_X11_150 (by decide) rfl (Nat.le_of_ble_eq_true rfl) (by decide) (fm_dec dtX11_kindHere 36 rfl) ?_
        refine c_isWord [108, 97, 99, 107] ⟨by decide, by decide, by decide⟩ hS3 hf (fun x60 e60 hx60 => ?_) (fun x60 e60 hx60 => ?_)
        · refine pv_then1 ?_
          refine pv_if_eq (pc := 63) 68 (by decide) (fm_dec dtX11_kindHere 37 rfl) (fun hc63 => by exfalso; revert hc63; decide) (fun _ => ?_)
          refine pv_iconst (pc := 66) (v := 3) (by decide) (fm_dec dtX11_kindHere 38 rfl) ?_
          exact pv_ireturn (pc := 67) rfl (fm_dec dtX11_kindHere 39 rfl) (by rw [sk_sk hS.2.2.2.1 hS.2.2.1] at e60 hx60; (try simp only [fmI_fmI]); exact h_3 x60 (by unfold dwK; rw [if_neg e9]; rw [if_neg e25]; rw [if_neg e44]; rw [if_pos e60]) hx60)
        · refine pv_then1 ?_
          refine pv_if_eq (pc := 63) 68 (by decide) (fm_dec dtX11_kindHere 37 rfl) (fun _ => ?_) (fun hc63 => by exfalso; revert hc63; decide)
          rw [sk_sk hS.2.2.2.1 hS.2.2.1] at e60 hx60
          have hS4 := hS3.set hx60 hS1.2.2.1
          refine pv_aloadn (pc := 68) (n := 0) 0 rfl rfl (fm_dec dtX11_kindHere 40 rfl) ?_
          refine pv_bipush (pc := 69) (v := 23) (by decide) (fm_dec dtX11_kindHere 41 rfl) ?_
          refine pv_bipush (pc := 71) (v := 18) (by decide) (fm_dec dtX11_kindHere 42 rfl) ?_
          refine pv_bipush (pc := 73) (v := 15) (by decide) (fm_dec dtX11_kindHere 43 rfl) ?_
          refine pv_bipush (pc := 75) (v := 14) (by decide) (fm_dec dtX11_kindHere 44 rfl) ?_
          refine pv_bipush (pc := 77) (v := 7) (by decide) (fm_dec dtX11_kindHere 45 rfl) ?_
          refine pv_invV5 (k := 0) (d' := 3) (pc := 79) pcv_X11_150 (by decide) rfl (Nat.le_of_ble_eq_true rfl) (by decide) (fm_dec dtX11_kindHere 46 rfl) ?_
          refine c_isWord [119, 114, 111, 110, 103] ⟨by decide, by decide, by decide⟩ hS4 hf (fun x79 e79 hx79 => ?_) (fun x79 e79 hx79 => ?_)
          · refine pv_then1 ?_
            refine pv_if_eq (pc := 82) 87 (by decide) (fm_dec dtX11_kindHere 47 rfl) (fun hc82 => by exfalso; revert hc82; decide) (fun _ => ?_)
            refine pv_iconst (pc := 85) (v := 4) (by decide) (fm_dec dtX11_kindHere 48 rfl) ?_
            exact pv_ireturn (pc := 86) rfl (fm_dec dtX11_kindHere 49 rfl) (by rw [sk_sk hS.2.2.2.1 hS.2.2.1] at e79 hx79; (try simp only [fmI_fmI]); exact h_4 x79 (by unfold dwK; rw [if_neg e9]; rw [if_neg e25]; rw [if_neg e44]; rw [if_neg e60]; rw [if_pos e79]) hx79)
          · refine pv_then1 ?_
            refine pv_if_eq (pc := 82) 87 (by decide) (fm_dec dtX11_kindHere 47 rfl) (fun _ => ?_) (fun hc82 => by exfalso; revert hc82; decide)
            rw [sk_sk hS.2.2.2.1 hS.2.2.1] at e79 hx79
            have hS5 := hS4.set hx79 hS1.2.2.1
            refine pv_aloadn (pc := 87) (n := 0) 0 rfl rfl (fm_dec dtX11_kindHere 50 rfl) ?_
            refine pv_bipush (pc := 88) (v := 8) (by decide) (fm_dec dtX11_kindHere 51 rfl) ?_
            refine pv_iconst (pc := 90) (v := 1) (by decide) (fm_dec dtX11_kindHere 52 rfl) ?_
            refine pv_bipush (pc := 91) (v := 12) (by decide) (fm_dec dtX11_kindHere 53 rfl) ?_
            refine pv_bipush (pc := 93) (v := 6) (by decide) (fm_dec dtX11_kindHere 54 rfl) ?_
            refine pv_iconst (pc := 95) (v := 0) (by decide) (fm_dec dtX11_kindHere 55 rfl) ?_
            refine pv_invV5 (k := 0) (d' := 3) (pc := 96) pcv_X11_150 (by decide) rfl (Nat.le_of_ble_eq_true rfl) (by decide) (fm_dec dtX11_kindHere 56 rfl) ?_
            refine c_isWord [104, 97, 108, 102] ⟨by decide, by decide, by decide⟩ hS5 hf (fun x96 e96 hx96 => ?_) (fun x96 e96 hx96 => ?_)
            · refine pv_then1 ?_
              refine pv_if_eq (pc := 99) 104 (by decide) (fm_dec dtX11_kindHere 57 rfl) (fun hc99 => by exfalso; revert hc99; decide) (fun _ => ?_)
              refine pv_iconst (pc := 102) (v := 5) (by decide) (fm_dec dtX11_kindHere 58 rfl) ?_
              exact pv_ireturn (pc := 103) rfl (fm_dec dtX11_kindHere 59 rfl) (by rw [sk_sk hS.2.2.2.1 hS.2.2.1] at e96 hx96; (try simp only [fmI_fmI]); exact h_5 x96 (by unfold dwK; rw [if_neg e9]; rw [if_neg e25]; rw [if_neg e44]; rw [if_neg e60]; rw [if_neg e79]; rw [if_pos e96]) hx96)
            · refine pv_then1 ?_
              refine pv_if_eq (pc := 99) 104 (by decide) (fm_dec dtX11_kindHere 57 rfl) (fun _ => ?_) (fun hc99 => by exfalso; revert hc99; decide)
              rw [sk_sk hS.2.2.2.1 hS.2.2.1] at e96 hx96
              have hS6 := hS5.set hx96 hS1.2.2.1
              refine pv_aloadn (pc := 104) (n := 0) 0 rfl rfl (fm_dec dtX11_kindHere 60 rfl) ?_
              refine pv_bipush (pc := 105) (v := 8) (by decide) (fm_dec dtX11_kindHere 61 rfl) ?_
              refine pv_iconst (pc := 107) (v := 1) (by decide) (fm_dec dtX11_kindHere 62 rfl) ?_
              refine pv_bipush (pc := 108) (v := 19) (by decide) (fm_dec dtX11_kindHere 63 rfl) ?_
              refine pv_iconst (pc := 110) (v := 0) (by decide) (fm_dec dtX11_kindHere 64 rfl) ?_
              refine pv_iconst (pc := 111) (v := 0) (by decide) (fm_dec dtX11_kindHere 65 rfl) ?_
              refine pv_invV5 (k := 0) (d' := 3) (pc := 112) pcv_X11_150 (by decide) rfl (Nat.le_of_ble_eq_true rfl) (by decide) (fm_dec dtX11_kindHere 66 rfl) ?_
              refine c_isWord [104, 97, 115] ⟨by decide, by decide, by decide⟩ hS6 hf (fun x112 e112 hx112 => ?_) (fun x112 e112 hx112 => ?_)
              · refine pv_then1 ?_
                refine pv_if_eq (pc := 115) 121 (by decide) (fm_dec dtX11_kindHere 67 rfl) (fun hc115 => by exfalso; revert hc115; decide) (fun _ => ?_)
                refine pv_bipush (pc := 118) (v := 6) (by decide) (fm_dec dtX11_kindHere 68 rfl) ?_
                exact pv_ireturn (pc := 120) rfl (fm_dec dtX11_kindHere 69 rfl) (by rw [sk_sk hS.2.2.2.1 hS.2.2.1] at e112 hx112; (try simp only [fmI_fmI]); exact h_6 x112 (by unfold dwK; rw [if_neg e9]; rw [if_neg e25]; rw [if_neg e44]; rw [if_neg e60]; rw [if_neg e79]; rw [if_neg e96]; rw [if_pos e112]) hx112)
              · refine pv_then1 ?_
                refine pv_if_eq (pc := 115) 121 (by decide) (fm_dec dtX11_kindHere 67 rfl) (fun _ => ?_) (fun hc115 => by exfalso; revert hc115; decide)
                rw [sk_sk hS.2.2.2.1 hS.2.2.1] at e112 hx112
                have hS7 := hS6.set hx112 hS1.2.2.1
                refine pv_aloadn (pc := 121) (n := 0) 0 rfl rfl (fm_dec dtX11_kindHere 70 rfl) ?_
                refine pv_iconst (pc := 122) (v := 2) (by decide) (fm_dec dtX11_kindHere 71 rfl) ?_
                refine pv_bipush (pc := 123) (v := 25) (by decide) (fm_dec dtX11_kindHere 72 rfl) ?_
                refine pv_iconst (pc := 125) (v := 0) (by decide) (fm_dec dtX11_kindHere 73 rfl) ?_
                refine pv_iconst (pc := 126) (v := 0) (by decide) (fm_dec dtX11_kindHere 74 rfl) ?_
                refine pv_iconst (pc := 127) (v := 0) (by decide) (fm_dec dtX11_kindHere 75 rfl) ?_
                refine pv_invV5 (k := 0) (d' := 3) (pc := 128) pcv_X11_150 (by decide) rfl (Nat.le_of_ble_eq_true rfl) (by decide) (fm_dec dtX11_kindHere 76 rfl) ?_
                refine c_isWord [98, 121] ⟨by decide, by decide, by decide⟩ hS7 hf (fun x128 e128 hx128 => ?_) (fun x128 e128 hx128 => ?_)
                · refine pv_then1 ?_
                  refine pv_if_eq (pc := 131) 139 (by decide) (fm_dec dtX11_kindHere 77 rfl) (fun hc131 => by exfalso; revert hc131; decide) (fun _ => ?_)
                  refine pv_bipush (pc := 134) (v := 7) (by decide) (fm_dec dtX11_kindHere 78 rfl) ?_
                  refine pv_goto (pc := 136) 140 (by decide) (fm_dec dtX11_kindHere 79 rfl) ?_
                  exact pv_ireturn (pc := 140) rfl (fm_dec dtX11_kindHere 81 rfl) (by rw [sk_sk hS.2.2.2.1 hS.2.2.1] at e128 hx128; (try simp only [fmI_fmI]); first | exact h_7 x128 (by unfold dwK; rw [if_neg e9]; rw [if_neg e25]; rw [if_neg e44]; rw [if_neg e60]; rw [if_neg e79]; rw [if_neg e96]; rw [if_neg e112]; rw [if_pos e128]) hx128 | exact hn x128 (by unfold dwK; rw [if_neg e9, if_neg e25, if_neg e44, if_neg e60, if_neg e79, if_neg e96, if_neg e112, if_neg e128]) hx128)
                · refine pv_then1 ?_
                  refine pv_if_eq (pc := 131) 139 (by decide) (fm_dec dtX11_kindHere 77 rfl) (fun _ => ?_) (fun hc131 => by exfalso; revert hc131; decide)
                  refine pv_iconst (pc := 139) (v := (-1)) (by decide) (fm_dec dtX11_kindHere 80 rfl) ?_
                  exact pv_ireturn (pc := 140) rfl (fm_dec dtX11_kindHere 81 rfl) (by rw [sk_sk hS.2.2.2.1 hS.2.2.1] at e128 hx128; (try simp only [fmI_fmI]); first | exact h_7 x128 (by unfold dwK; rw [if_neg e9]; rw [if_neg e25]; rw [if_neg e44]; rw [if_neg e60]; rw [if_neg e79]; rw [if_neg e96]; rw [if_neg e112]; rw [if_pos e128]) hx128 | exact hn x128 (by unfold dwK; rw [if_neg e9, if_neg e25, if_neg e44, if_neg e60, if_neg e79, if_neg e96, if_neg e112, if_neg e128]) hx128)
set_option maxRecDepth 20000 in
theorem c_lifeHere {M : fmM} {Q : fmR → fmM → Prop} {tx : tX} {n p l : Nat} (hS : rS M tx n p) (hf : M.1 0 5 = 0) (h0 : (M.1 3 0).toInt = l) (hl : l ≤ 8) (hok : ∀ (M' : fmM) (v q : Nat) (w : Int32), spNum tx 0 ((l : Int) - 1) p = .inr (v, q) → w.toInt = v → rdOk M M' tx n q → Q (.inl (some (.int w))) M') (hbad : ∀ (M' : fmM) (k a : Nat), spNum tx 0 ((l : Int) - 1) p = .inl (k, a) → rdBad M M' tx n k a → Q (.inl (some (.int 0))) M') : pvGood Tm 3 qX11_lifeHere [.ref 0] M Q := by
  refine pvGood_of (Nat.le_of_ble_eq_true rfl) ?_
  show pvEv Tm 3 qX11_lifeHere 0 [some (.ref 0)] [] M Q
  refine pv_aloadn (pc := 0) (n := 0) 0 rfl rfl (fm_dec dtX11_lifeHere 0 rfl) ?_
  refine pv_iconst (pc := 1) (v := 0) (by decide) (fm_dec dtX11_lifeHere 1 rfl) ?_
  refine pv_aloadn (pc := 2) (n := 0) 0 rfl rfl (fm_dec dtX11_lifeHere 2 rfl) ?_
  refine pv_getR (k := 0) (j := 11) (ci := 11) (pc := 3) 3 rfl (by decide) pfl_X11_20 (by decide) rfl (by decide) (fm_dec dtX11_lifeHere 3 rfl) ?_
  refine pv_iconst (pc := 6) (v := 0) (by decide) (fm_dec dtX11_lifeHere 4 rfl) ?_
  refine pv_iald (k := 3) (n := 6) (pc := 7) (by decide) rfl rfl (fm_inl (by decide)) (fm_dec dtX11_lifeHere 5 rfl) ?_
  refine pv_iconst (pc := 8) (v := 1) (by decide) (fm_dec dtX11_lifeHere 6 rfl) ?_
  refine pv_isub (pc := 9) (fm_dec dtX11_lifeHere 7 rfl) ?_
  refine pv_invV2 (k := 0) (d' := 2) (pc := 10) pcv_X11_163 (by decide) rfl (Nat.le_of_ble_eq_true rfl) (by decide) (fm_dec dtX11_lifeHere 8 rfl) ?_
  refine r_num 0 ((l : Int) - 1) ⟨by decide, lh_hi h0 hl, by omega⟩ hS hf (fun M10 v10 q10 w10 e10 hw10 k10 => ?_) (fun Mb kb ab eb hB => ?_)  
  · refine pv_then1 ?_
    exact pv_ireturn (pc := 13) rfl (fm_dec dtX11_lifeHere 9 rfl) (hok _ _ _ _ e10 hw10 k10)
  · refine pv_then1 ?_
    exact pv_ireturn (pc := 13) rfl (fm_dec dtX11_lifeHere 9 rfl) (hbad _ _ _ eb hB)
set_option maxRecDepth 20000 in
theorem c_lifeHere1 {M : fmM} {Q : fmR → fmM → Prop}  (hf : ¬ M.1 0 5 = 0) (hq : Q (.inl (some (.int 0))) M) : pvGood Tm 3 qX11_lifeHere [.ref 0] M Q := by
  refine pvGood_of (Nat.le_of_ble_eq_true rfl) ?_
  show pvEv Tm 3 qX11_lifeHere 0 [some (.ref 0)] [] M Q
  refine pv_aloadn (pc := 0) (n := 0) 0 rfl rfl (fm_dec dtX11_lifeHere 0 rfl) ?_
  refine pv_iconst (pc := 1) (v := 0) (by decide) (fm_dec dtX11_lifeHere 1 rfl) ?_
  refine pv_aloadn (pc := 2) (n := 0) 0 rfl rfl (fm_dec dtX11_lifeHere 2 rfl) ?_
  refine pv_getR (k := 0) (j := 11) (ci := 11) (pc := 3) 3 rfl (by decide) pfl_X11_20 (by decide) rfl (by decide) (fm_dec dtX11_lifeHere 3 rfl) ?_
  refine pv_iconst (pc := 6) (v := 0) (by decide) (fm_dec dtX11_lifeHere 4 rfl) ?_
  refine pv_iald (k := 3) (n := 6) (pc := 7) (by decide) rfl rfl (fm_inl (by decide)) (fm_dec dtX11_lifeHere 5 rfl) ?_
  refine pv_iconst (pc := 8) (v := 1) (by decide) (fm_dec dtX11_lifeHere 6 rfl) ?_
  refine pv_isub (pc := 9) (fm_dec dtX11_lifeHere 7 rfl) ?_
  refine pv_invV2 (k := 0) (d' := 2) (pc := 10) pcv_X11_163 (by decide) rfl (Nat.le_of_ble_eq_true rfl) (by decide) (fm_dec dtX11_lifeHere 8 rfl) ?_
  refine c_number1 hf ?_
  refine pv_then1 ?_
  exact pv_ireturn (pc := 13) rfl (fm_dec dtX11_lifeHere 9 rfl) hq
set_option maxRecDepth 20000 in
theorem cl_0 {Q : fmR → fmM → Prop} {M0 M : fmM} {tx : tX} {n q : Nat} {D : dD} {v2 v3 v4 : Option Value} (hS : rS M tx n q) (hf : M.1 0 5 = 0) (hR : dRep M D) (hD : dOk D) (hF : clI M0 M) (hl : D.1 < 8) (hok : ∀ (M' : fmM) (D' : dD) (q' : Nat), spLife tx D q = .inr (D', q') → clOk M0 M' tx n q' D' → Q (.inl none) M') (hbad : ∀ (M' : fmM) (k a : Nat), spLife tx D q = .inl (k, a) → clBad M0 M' tx n k a → Q (.inl none) M') : pvEv Tm 5 qX11_clause 93 [some (.ref 0), some (.int 0), v2, v3, v4] [] M Q := by
  refine pv_iloadn (pc := 93) (n := 1) 1 rfl rfl (fm_dec dtX11_clause 50 rfl) ?_
  refine pv_table (pc := 94) 140 (by decide) rfl (fm_dec dtX11_clause 51 rfl) ?_
  refine pv_aloadn (pc := 140) (n := 0) 0 rfl rfl (fm_dec dtX11_clause 52 rfl) ?_
  refine pv_getR (k := 0) (j := 13) (ci := 11) (pc := 141) 16 rfl (by decide) pfl_X11_28 (by decide) rfl (by decide) (fm_dec dtX11_clause 53 rfl) ?_
  refine pv_aloadn (pc := 144) (n := 0) 0 rfl rfl (fm_dec dtX11_clause 54 rfl) ?_
  refine pv_getR (k := 0) (j := 11) (ci := 11) (pc := 145) 3 rfl (by decide) pfl_X11_20 (by decide) rfl (by decide) (fm_dec dtX11_clause 55 rfl) ?_
  refine pv_iconst (pc := 148) (v := 0) (by decide) (fm_dec dtX11_clause 56 rfl) ?_
  refine pv_iald (k := 3) (n := 6) (pc := 149) (by decide) rfl rfl (fm_inl (by decide)) (fm_dec dtX11_clause 57 rfl) ?_
  refine pv_aald (k := 16) (n := 8) (r := (27 + D.1)) (pc := 150) (by decide) (Or.inr (Or.inr rfl)) rfl (rw_readLife.inb hR.1 hl) (rw_readLife.at hR.1 hl) (rw_readLife.2.2.2 _ hl).2.1 (fm_dec dtX11_clause 58 rfl) ?_
  refine pv_astoren (pc := 151) (n := 2) 2 rfl (by decide) rfl (fm_dec dtX11_clause 59 rfl) ?_
  dsimp only [List.set_cons_zero, List.set_cons_succ]
  refine pv_aloadn (pc := 152) (n := 2) 2 rfl rfl (fm_dec dtX11_clause 60 rfl) ?_
  refine pv_iconst (pc := 153) (v := 0) (by decide) (fm_dec dtX11_clause 61 rfl) ?_
  refine pv_aloadn (pc := 154) (n := 0) 0 rfl rfl (fm_dec dtX11_clause 62 rfl) ?_
  refine pv_iconst (pc := 155) (v := 0) (by decide) (fm_dec dtX11_clause 63 rfl) ?_
  refine pv_bipush (pc := 156) (v := 110) (by decide) (fm_dec dtX11_clause 64 rfl) ?_
  refine pv_invV2 (k := 0) (d' := 2) (pc := 158) pcv_X11_163 (by decide) rfl (Nat.le_of_ble_eq_true rfl) (by decide) (fm_dec dtX11_clause 65 rfl) ?_
  refine r_num (tx := tx) (n := n) (p := q) 0 110 ⟨by decide, by decide, by decide⟩ (by (repeat with_reducible refine rS.row ?_ ⟨by omega, by omega⟩); exact (⟨hS, hf, rdFr.refl M⟩ : rdOk M M tx n q).1) (by (repeat with_reducible refine f0.row ?_ (by omega)); exact (⟨hS, hf, rdFr.refl M⟩ : rdOk M M tx n q).2.1) (fun M158 v158 q158 w158 e158 hw158 k158 => ?_) (fun Mb kb ab eb hB => ?_)  
  · refine pv_then1 ?_
    refine pv_iast (k := (27 + D.1)) (n := 6) (pc := 161) (rw_readLife.2.2.2 _ hl).2.2.1 (rw_readLife.2.2.2 _ hl).2.2.2.1 (rw_readLife.2.2.2 _ hl).2.2.2.2 (fm_inl (by decide)) (fm_dec dtX11_clause 66 rfl) ?_
    refine pv_aloadn (pc := 162) (n := 2) 2 rfl rfl (fm_dec dtX11_clause 67 rfl) ?_
    refine pv_iconst (pc := 163) (v := 1) (by decide) (fm_dec dtX11_clause 68 rfl) ?_
    refine pv_aloadn (pc := 164) (n := 0) 0 rfl rfl (fm_dec dtX11_clause 69 rfl) ?_
    refine pv_iconst (pc := 165) (v := 0) (by decide) (fm_dec dtX11_clause 70 rfl) ?_
    refine pv_bipush (pc := 166) (v := 64) (by decide) (fm_dec dtX11_clause 71 rfl) ?_
    refine pv_invV2 (k := 0) (d' := 2) (pc := 168) pcv_X11_163 (by decide) rfl (Nat.le_of_ble_eq_true rfl) (by decide) (fm_dec dtX11_clause 72 rfl) ?_
    refine r_num (tx := tx) (n := n) (p := q158) 0 64 ⟨by decide, by decide, by decide⟩ (by (repeat with_reducible refine rS.row ?_ ⟨by omega, by omega⟩); exact k158.1) (by (repeat with_reducible refine f0.row ?_ (by omega)); exact k158.2.1) (fun M168 v168 q168 w168 e168 hw168 k168 => ?_) (fun Mb kb ab eb hB => ?_)  
    · refine pv_then1 ?_
      refine pv_iast (k := (27 + D.1)) (n := 6) (pc := 171) (rw_readLife.2.2.2 _ hl).2.2.1 (rw_readLife.2.2.2 _ hl).2.2.2.1 (rw_readLife.2.2.2 _ hl).2.2.2.2 (fm_inl (by decide)) (fm_dec dtX11_clause 73 rfl) ?_
      refine pv_aloadn (pc := 172) (n := 2) 2 rfl rfl (fm_dec dtX11_clause 74 rfl) ?_
      refine pv_iconst (pc := 173) (v := 2) (by decide) (fm_dec dtX11_clause 75 rfl) ?_
      refine pv_aloadn (pc := 174) (n := 0) 0 rfl rfl (fm_dec dtX11_clause 76 rfl) ?_
      refine pv_iconst (pc := 175) (v := 1) (by decide) (fm_dec dtX11_clause 77 rfl) ?_
      refine pv_bipush (pc := 176) (v := 99) (by decide) (fm_dec dtX11_clause 78 rfl) ?_
      refine pv_invV2 (k := 0) (d' := 2) (pc := 178) pcv_X11_163 (by decide) rfl (Nat.le_of_ble_eq_true rfl) (by decide) (fm_dec dtX11_clause 79 rfl) ?_
      refine r_num (tx := tx) (n := n) (p := q168) 1 99 ⟨by decide, by decide, by decide⟩ (by (repeat with_reducible refine rS.row ?_ ⟨by omega, by omega⟩); exact k168.1) (by (repeat with_reducible refine f0.row ?_ (by omega)); exact k168.2.1) (fun M178 v178 q178 w178 e178 hw178 k178 => ?_) (fun Mb kb ab eb hB => ?_)  
      · refine pv_then1 ?_
        refine pv_iast (k := (27 + D.1)) (n := 6) (pc := 181) (rw_readLife.2.2.2 _ hl).2.2.1 (rw_readLife.2.2.2 _ hl).2.2.2.1 (rw_readLife.2.2.2 _ hl).2.2.2.2 (fm_inl (by decide)) (fm_dec dtX11_clause 80 rfl) ?_
        refine pv_aloadn (pc := 182) (n := 2) 2 rfl rfl (fm_dec dtX11_clause 81 rfl) ?_
        refine pv_iconst (pc := 183) (v := 3) (by decide) (fm_dec dtX11_clause 82 rfl) ?_
        refine pv_aloadn (pc := 184) (n := 0) 0 rfl rfl (fm_dec dtX11_clause 83 rfl) ?_
        refine pv_iconst (pc := 185) (v := 1) (by decide) (fm_dec dtX11_clause 84 rfl) ?_
        refine pv_bipush (pc := 186) (v := 9) (by decide) (fm_dec dtX11_clause 85 rfl) ?_
        refine pv_invV2 (k := 0) (d' := 2) (pc := 188) pcv_X11_163 (by decide) rfl (Nat.le_of_ble_eq_true rfl) (by decide) (fm_dec dtX11_clause 86 rfl) ?_
        refine r_num (tx := tx) (n := n) (p := q178) 1 9 ⟨by decide, by decide, by decide⟩ (by (repeat with_reducible refine rS.row ?_ ⟨by omega, by omega⟩); exact k178.1) (by (repeat with_reducible refine f0.row ?_ (by omega)); exact k178.2.1) (fun M188 v188 q188 w188 e188 hw188 k188 => ?_) (fun Mb kb ab eb hB => ?_)  
        · refine pv_then1 ?_
          refine pv_iast (k := (27 + D.1)) (n := 6) (pc := 191) (rw_readLife.2.2.2 _ hl).2.2.1 (rw_readLife.2.2.2 _ hl).2.2.2.1 (rw_readLife.2.2.2 _ hl).2.2.2.2 (fm_inl (by decide)) (fm_dec dtX11_clause 87 rfl) ?_
          refine pv_aloadn (pc := 192) (n := 2) 2 rfl rfl (fm_dec dtX11_clause 88 rfl) ?_
          refine pv_iconst (pc := 193) (v := 4) (by decide) (fm_dec dtX11_clause 89 rfl) ?_
          refine pv_iconst (pc := 194) (v := (-1)) (by decide) (fm_dec dtX11_clause 90 rfl) ?_
          refine pv_iast (k := (27 + D.1)) (n := 6) (pc := 195) (rw_readLife.2.2.2 _ hl).2.2.1 (rw_readLife.2.2.2 _ hl).2.2.2.1 (rw_readLife.2.2.2 _ hl).2.2.2.2 (fm_inl (by decide)) (fm_dec dtX11_clause 91 rfl) ?_
          refine pv_aloadn (pc := 196) (n := 2) 2 rfl rfl (fm_dec dtX11_clause 92 rfl) ?_
          refine pv_iconst (pc := 197) (v := 5) (by decide) (fm_dec dtX11_clause 93 rfl) ?_
          refine pv_iconst (pc := 198) (v := (-1)) (by decide) (fm_dec dtX11_clause 94 rfl) ?_
          refine pv_iast (k := (27 + D.1)) (n := 6) (pc := 199) (rw_readLife.2.2.2 _ hl).2.2.1 (rw_readLife.2.2.2 _ hl).2.2.2.1 (rw_readLife.2.2.2 _ hl).2.2.2.2 (fm_inl (by decide)) (fm_dec dtX11_clause 95 rfl) ?_
          refine pv_goto (pc := 200) 403 (by decide) (fm_dec dtX11_clause 96 rfl) ?_
          refine pv_iloadn (pc := 403) (n := 1) 1 rfl rfl (fm_dec dtX11_clause 212 rfl) ?_
          refine pv_iconst (pc := 404) (v := 2) (by decide) (fm_dec dtX11_clause 213 rfl) ?_
          refine pv_icmp_ge (pc := 405) 429 (by decide) (fm_dec dtX11_clause 214 rfl) (fun hc405 => by exfalso; revert hc405; decide) (fun _ => ?_)
          refine pv_aloadn (pc := 408) (n := 0) 0 rfl rfl (fm_dec dtX11_clause 215 rfl) ?_
          refine pv_getR (k := 0) (j := 11) (ci := 11) (pc := 409) 3 rfl (by decide) pfl_X11_20 (by decide) rfl (by decide) (fm_dec dtX11_clause 216 rfl) ?_
          refine pv_iloadn (pc := 412) (n := 1) 1 rfl rfl (fm_dec dtX11_clause 217 rfl) ?_
          refine pv_dup2 (pc := 413) rfl rfl (fm_dec dtX11_clause 218 rfl) ?_
          refine pv_iald (k := 3) (n := 6) (pc := 414) (by decide) rfl rfl (fm_inl (by decide)) (fm_dec dtX11_clause 219 rfl) ?_
          refine pv_aloadn (pc := 415) (n := 0) 0 rfl rfl (fm_dec dtX11_clause 220 rfl) ?_
          refine pv_getI (k := 0) (j := 5) (ci := 11) (pc := 416) pfl_X11_117 (by decide) rfl (by decide) (fm_dec dtX11_clause 221 rfl) ?_
          refine pv_if_ne (pc := 419) 426 (by decide) (fm_dec dtX11_clause 222 rfl) (fun hc419 => by exfalso; exact hc419 (by (repeat with_reducible refine f0.row ?_ (by omega)); exact k188.2.1)) (fun _ => ?_)
          refine pv_iconst (pc := 422) (v := 1) (by decide) (fm_dec dtX11_clause 223 rfl) ?_
          refine pv_goto (pc := 423) 427 (by decide) (fm_dec dtX11_clause 224 rfl) ?_
          refine pv_iadd (pc := 427) (fm_dec dtX11_clause 226 rfl) ?_
          refine pv_iast (k := 3) (n := 6) (pc := 428) (by decide) rfl rfl (fm_inl (by decide)) (fm_dec dtX11_clause 227 rfl) ?_
          refine pv_aloadn (pc := 429) (n := 0) 0 rfl rfl (fm_dec dtX11_clause 228 rfl) ?_
          refine pv_bipush (pc := 430) (v := 59) (by decide) (fm_dec dtX11_clause 229 rfl) ?_
          refine pv_invV1 (k := 0) (d' := 2) (pc := 432) pcv_X11_173 (by decide) rfl (Nat.le_of_ble_eq_true rfl) (by decide) (fm_dec dtX11_clause 230 rfl) ?_
          refine r_sign (tx := tx) (n := n) (p := q188) 59 ⟨by decide, by decide⟩ (by (repeat with_reducible refine rS.row ?_ ⟨by omega, by omega⟩); exact k188.1) (by (repeat with_reducible refine f0.row ?_ (by omega)); exact k188.2.1) (fun M432 q432 e432 k432 => ?_) (fun Mb kb ab eb hB => ?_)  
          · refine pv_then0 ?_
            exact pv_return (pc := 435) rfl (fm_dec dtX11_clause 231 rfl) (hok _ _ _ (by simp only [spLife, spBind, e158, e168, e178, e188, e432]) ⟨k432.1, k432.2.1, rep_life hR hl k158.2.2 k168.2.2 k178.2.2 k188.2.2 k432.2.2 hw158 hw168 hw178 hw188, (((((((((((((hF).rd k158.2.2).row (by omega)).rd k168.2.2).row (by omega)).rd k178.2.2).row (by omega)).rd k188.2.2).row (by omega)).row (by omega)).row (by omega)).row (Or.inl rfl)).rd k432.2.2).2, (((((((((((((hF).rd k158.2.2).row (by omega)).rd k168.2.2).row (by omega)).rd k178.2.2).row (by omega)).rd k188.2.2).row (by omega)).row (by omega)).row (by omega)).row (Or.inl rfl)).rd k432.2.2).1⟩)
          · refine pv_then0 ?_
            have hB9 := clBad.of ((((((((((((hF).rd k158.2.2).row (by omega)).rd k168.2.2).row (by omega)).rd k178.2.2).row (by omega)).rd k188.2.2).row (by omega)).row (by omega)).row (by omega)).row (Or.inl rfl)).1 hB
            exact pv_return (pc := 435) rfl (fm_dec dtX11_clause 231 rfl) (hbad _ kb ab (by simp only [spLife, spBind, e158, e168, e178, e188, eb]) (by (repeat with_reducible refine clBad.row (by omega) ?_); exact hB9))
        · refine pv_then1 ?_
          have hB9 := clBad.of (((((((hF).rd k158.2.2).row (by omega)).rd k168.2.2).row (by omega)).rd k178.2.2).row (by omega)).1 hB
          refine pv_iast (k := (27 + D.1)) (n := 6) (pc := 191) (rw_readLife.2.2.2 _ hl).2.2.1 (rw_readLife.2.2.2 _ hl).2.2.2.1 (rw_readLife.2.2.2 _ hl).2.2.2.2 (fm_inl (by decide)) (fm_dec dtX11_clause 87 rfl) ?_
          refine pv_aloadn (pc := 192) (n := 2) 2 rfl rfl (fm_dec dtX11_clause 88 rfl) ?_
          refine pv_iconst (pc := 193) (v := 4) (by decide) (fm_dec dtX11_clause 89 rfl) ?_
          refine pv_iconst (pc := 194) (v := (-1)) (by decide) (fm_dec dtX11_clause 90 rfl) ?_
          refine pv_iast (k := (27 + D.1)) (n := 6) (pc := 195) (rw_readLife.2.2.2 _ hl).2.2.1 (rw_readLife.2.2.2 _ hl).2.2.2.1 (rw_readLife.2.2.2 _ hl).2.2.2.2 (fm_inl (by decide)) (fm_dec dtX11_clause 91 rfl) ?_
          refine pv_aloadn (pc := 196) (n := 2) 2 rfl rfl (fm_dec dtX11_clause 92 rfl) ?_
          refine pv_iconst (pc := 197) (v := 5) (by decide) (fm_dec dtX11_clause 93 rfl) ?_
          refine pv_iconst (pc := 198) (v := (-1)) (by decide) (fm_dec dtX11_clause 94 rfl) ?_
          refine pv_iast (k := (27 + D.1)) (n := 6) (pc := 199) (rw_readLife.2.2.2 _ hl).2.2.1 (rw_readLife.2.2.2 _ hl).2.2.2.1 (rw_readLife.2.2.2 _ hl).2.2.2.2 (fm_inl (by decide)) (fm_dec dtX11_clause 95 rfl) ?_
          refine pv_goto (pc := 200) 403 (by decide) (fm_dec dtX11_clause 96 rfl) ?_
          refine pv_iloadn (pc := 403) (n := 1) 1 rfl rfl (fm_dec dtX11_clause 212 rfl) ?_
          refine pv_iconst (pc := 404) (v := 2) (by decide) (fm_dec dtX11_clause 213 rfl) ?_
          refine pv_icmp_ge (pc := 405) 429 (by decide) (fm_dec dtX11_clause 214 rfl) (fun hc405 => by exfalso; revert hc405; decide) (fun _ => ?_)
          refine pv_aloadn (pc := 408) (n := 0) 0 rfl rfl (fm_dec dtX11_clause 215 rfl) ?_
          refine pv_getR (k := 0) (j := 11) (ci := 11) (pc := 409) 3 rfl (by decide) pfl_X11_20 (by decide) rfl (by decide) (fm_dec dtX11_clause 216 rfl) ?_
          refine pv_iloadn (pc := 412) (n := 1) 1 rfl rfl (fm_dec dtX11_clause 217 rfl) ?_
          refine pv_dup2 (pc := 413) rfl rfl (fm_dec dtX11_clause 218 rfl) ?_
          refine pv_iald (k := 3) (n := 6) (pc := 414) (by decide) rfl rfl (fm_inl (by decide)) (fm_dec dtX11_clause 219 rfl) ?_
          refine pv_aloadn (pc := 415) (n := 0) 0 rfl rfl (fm_dec dtX11_clause 220 rfl) ?_
          refine pv_getI (k := 0) (j := 5) (ci := 11) (pc := 416) pfl_X11_117 (by decide) rfl (by decide) (fm_dec dtX11_clause 221 rfl) ?_
          refine pv_if_ne (pc := 419) 426 (by decide) (fm_dec dtX11_clause 222 rfl) (fun _ => ?_) (fun hc419 => by exfalso; exact (clBad.nz (M := M0) (tx := tx) (n := n) (k := kb) (a := ab) (by (repeat with_reducible refine clBad.row (by omega) ?_); exact hB9)) hc419)
          refine pv_iconst (pc := 426) (v := 0) (by decide) (fm_dec dtX11_clause 225 rfl) ?_
          refine pv_iadd (pc := 427) (fm_dec dtX11_clause 226 rfl) ?_
          refine pv_iast (k := 3) (n := 6) (pc := 428) (by decide) rfl rfl (fm_inl (by decide)) (fm_dec dtX11_clause 227 rfl) ?_
          refine pv_aloadn (pc := 429) (n := 0) 0 rfl rfl (fm_dec dtX11_clause 228 rfl) ?_
          refine pv_bipush (pc := 430) (v := 59) (by decide) (fm_dec dtX11_clause 229 rfl) ?_
          refine pv_invV1 (k := 0) (d' := 2) (pc := 432) pcv_X11_173 (by decide) rfl (Nat.le_of_ble_eq_true rfl) (by decide) (fm_dec dtX11_clause 230 rfl) ?_
          refine c_sign1 (clBad.nz (M := M0) (tx := tx) (n := n) (k := kb) (a := ab) (by (repeat with_reducible refine clBad.row (by omega) ?_); exact hB9)) ?_
          refine pv_then0 ?_
          exact pv_return (pc := 435) rfl (fm_dec dtX11_clause 231 rfl) (hbad _ kb ab (by simp only [spLife, spBind, e158, e168, e178, eb]) (by (repeat with_reducible refine clBad.row (by omega) ?_); exact hB9))
      · refine pv_then1 ?_
        have hB9 := clBad.of (((((hF).rd k158.2.2).row (by omega)).rd k168.2.2).row (by omega)).1 hB
        refine pv_iast (k := (27 + D.1)) (n := 6) (pc := 181) (rw_readLife.2.2.2 _ hl).2.2.1 (rw_readLife.2.2.2 _ hl).2.2.2.1 (rw_readLife.2.2.2 _ hl).2.2.2.2 (fm_inl (by decide)) (fm_dec dtX11_clause 80 rfl) ?_
        refine pv_aloadn (pc := 182) (n := 2) 2 rfl rfl (fm_dec dtX11_clause 81 rfl) ?_
        refine pv_iconst (pc := 183) (v := 3) (by decide) (fm_dec dtX11_clause 82 rfl) ?_
        refine pv_aloadn (pc := 184) (n := 0) 0 rfl rfl (fm_dec dtX11_clause 83 rfl) ?_
        refine pv_iconst (pc := 185) (v := 1) (by decide) (fm_dec dtX11_clause 84 rfl) ?_
        refine pv_bipush (pc := 186) (v := 9) (by decide) (fm_dec dtX11_clause 85 rfl) ?_
        refine pv_invV2 (k := 0) (d' := 2) (pc := 188) pcv_X11_163 (by decide) rfl (Nat.le_of_ble_eq_true rfl) (by decide) (fm_dec dtX11_clause 86 rfl) ?_
        refine c_number1 (clBad.nz (M := M0) (tx := tx) (n := n) (k := kb) (a := ab) (by (repeat with_reducible refine clBad.row (by omega) ?_); exact hB9)) ?_
        refine pv_then1 ?_
        refine pv_iast (k := (27 + D.1)) (n := 6) (pc := 191) (rw_readLife.2.2.2 _ hl).2.2.1 (rw_readLife.2.2.2 _ hl).2.2.2.1 (rw_readLife.2.2.2 _ hl).2.2.2.2 (fm_inl (by decide)) (fm_dec dtX11_clause 87 rfl) ?_
        refine pv_aloadn (pc := 192) (n := 2) 2 rfl rfl (fm_dec dtX11_clause 88 rfl) ?_
        refine pv_iconst (pc := 193) (v := 4) (by decide) (fm_dec dtX11_clause 89 rfl) ?_
        refine pv_iconst (pc := 194) (v := (-1)) (by decide) (fm_dec dtX11_clause 90 rfl) ?_
        refine pv_iast (k := (27 + D.1)) (n := 6) (pc := 195) (rw_readLife.2.2.2 _ hl).2.2.1 (rw_readLife.2.2.2 _ hl).2.2.2.1 (rw_readLife.2.2.2 _ hl).2.2.2.2 (fm_inl (by decide)) (fm_dec dtX11_clause 91 rfl) ?_
        refine pv_aloadn (pc := 196) (n := 2) 2 rfl rfl (fm_dec dtX11_clause 92 rfl) ?_
        refine pv_iconst (pc := 197) (v := 5) (by decide) (fm_dec dtX11_clause 93 rfl) ?_
        refine pv_iconst (pc := 198) (v := (-1)) (by decide) (fm_dec dtX11_clause 94 rfl) ?_
        refine pv_iast (k := (27 + D.1)) (n := 6) (pc := 199) (rw_readLife.2.2.2 _ hl).2.2.1 (rw_readLife.2.2.2 _ hl).2.2.2.1 (rw_readLife.2.2.2 _ hl).2.2.2.2 (fm_inl (by decide)) (fm_dec dtX11_clause 95 rfl) ?_
        refine pv_goto (pc := 200) 403 (by decide) (fm_dec dtX11_clause 96 rfl) ?_
        refine pv_iloadn (pc := 403) (n := 1) 1 rfl rfl (fm_dec dtX11_clause 212 rfl) ?_
        refine pv_iconst (pc := 404) (v := 2) (by decide) (fm_dec dtX11_clause 213 rfl) ?_
        refine pv_icmp_ge (pc := 405) 429 (by decide) (fm_dec dtX11_clause 214 rfl) (fun hc405 => by exfalso; revert hc405; decide) (fun _ => ?_)
        refine pv_aloadn (pc := 408) (n := 0) 0 rfl rfl (fm_dec dtX11_clause 215 rfl) ?_
        refine pv_getR (k := 0) (j := 11) (ci := 11) (pc := 409) 3 rfl (by decide) pfl_X11_20 (by decide) rfl (by decide) (fm_dec dtX11_clause 216 rfl) ?_
        refine pv_iloadn (pc := 412) (n := 1) 1 rfl rfl (fm_dec dtX11_clause 217 rfl) ?_
        refine pv_dup2 (pc := 413) rfl rfl (fm_dec dtX11_clause 218 rfl) ?_
        refine pv_iald (k := 3) (n := 6) (pc := 414) (by decide) rfl rfl (fm_inl (by decide)) (fm_dec dtX11_clause 219 rfl) ?_
        refine pv_aloadn (pc := 415) (n := 0) 0 rfl rfl (fm_dec dtX11_clause 220 rfl) ?_
        refine pv_getI (k := 0) (j := 5) (ci := 11) (pc := 416) pfl_X11_117 (by decide) rfl (by decide) (fm_dec dtX11_clause 221 rfl) ?_
        refine pv_if_ne (pc := 419) 426 (by decide) (fm_dec dtX11_clause 222 rfl) (fun _ => ?_) (fun hc419 => by exfalso; exact (clBad.nz (M := M0) (tx := tx) (n := n) (k := kb) (a := ab) (by (repeat with_reducible refine clBad.row (by omega) ?_); exact hB9)) hc419)
        refine pv_iconst (pc := 426) (v := 0) (by decide) (fm_dec dtX11_clause 225 rfl) ?_
        refine pv_iadd (pc := 427) (fm_dec dtX11_clause 226 rfl) ?_
        refine pv_iast (k := 3) (n := 6) (pc := 428) (by decide) rfl rfl (fm_inl (by decide)) (fm_dec dtX11_clause 227 rfl) ?_
        refine pv_aloadn (pc := 429) (n := 0) 0 rfl rfl (fm_dec dtX11_clause 228 rfl) ?_
        refine pv_bipush (pc := 430) (v := 59) (by decide) (fm_dec dtX11_clause 229 rfl) ?_
        refine pv_invV1 (k := 0) (d' := 2) (pc := 432) pcv_X11_173 (by decide) rfl (Nat.le_of_ble_eq_true rfl) (by decide) (fm_dec dtX11_clause 230 rfl) ?_
        refine c_sign1 (clBad.nz (M := M0) (tx := tx) (n := n) (k := kb) (a := ab) (by (repeat with_reducible refine clBad.row (by omega) ?_); exact hB9)) ?_
        refine pv_then0 ?_
        exact pv_return (pc := 435) rfl (fm_dec dtX11_clause 231 rfl) (hbad _ kb ab (by simp only [spLife, spBind, e158, e168, eb]) (by (repeat with_reducible refine clBad.row (by omega) ?_); exact hB9))
    · refine pv_then1 ?_
      have hB9 := clBad.of (((hF).rd k158.2.2).row (by omega)).1 hB
      refine pv_iast (k := (27 + D.1)) (n := 6) (pc := 171) (rw_readLife.2.2.2 _ hl).2.2.1 (rw_readLife.2.2.2 _ hl).2.2.2.1 (rw_readLife.2.2.2 _ hl).2.2.2.2 (fm_inl (by decide)) (fm_dec dtX11_clause 73 rfl) ?_
      refine pv_aloadn (pc := 172) (n := 2) 2 rfl rfl (fm_dec dtX11_clause 74 rfl) ?_
      refine pv_iconst (pc := 173) (v := 2) (by decide) (fm_dec dtX11_clause 75 rfl) ?_
      refine pv_aloadn (pc := 174) (n := 0) 0 rfl rfl (fm_dec dtX11_clause 76 rfl) ?_
      refine pv_iconst (pc := 175) (v := 1) (by decide) (fm_dec dtX11_clause 77 rfl) ?_
      refine pv_bipush (pc := 176) (v := 99) (by decide) (fm_dec dtX11_clause 78 rfl) ?_
      refine pv_invV2 (k := 0) (d' := 2) (pc := 178) pcv_X11_163 (by decide) rfl (Nat.le_of_ble_eq_true rfl) (by decide) (fm_dec dtX11_clause 79 rfl) ?_
      refine c_number1 (clBad.nz (M := M0) (tx := tx) (n := n) (k := kb) (a := ab) (by (repeat with_reducible refine clBad.row (by omega) ?_); exact hB9)) ?_
      refine pv_then1 ?_
      refine pv_iast (k := (27 + D.1)) (n := 6) (pc := 181) (rw_readLife.2.2.2 _ hl).2.2.1 (rw_readLife.2.2.2 _ hl).2.2.2.1 (rw_readLife.2.2.2 _ hl).2.2.2.2 (fm_inl (by decide)) (fm_dec dtX11_clause 80 rfl) ?_
      refine pv_aloadn (pc := 182) (n := 2) 2 rfl rfl (fm_dec dtX11_clause 81 rfl) ?_
      refine pv_iconst (pc := 183) (v := 3) (by decide) (fm_dec dtX11_clause 82 rfl) ?_
      refine pv_aloadn (pc := 184) (n := 0) 0 rfl rfl (fm_dec dtX11_clause 83 rfl) ?_
      refine pv_iconst (pc := 185) (v := 1) (by decide) (fm_dec dtX11_clause 84 rfl) ?_
      refine pv_bipush (pc := 186) (v := 9) (by decide) (fm_dec dtX11_clause 85 rfl) ?_
      refine pv_invV2 (k := 0) (d' := 2) (pc := 188) pcv_X11_163 (by decide) rfl (Nat.le_of_ble_eq_true rfl) (by decide) (fm_dec dtX11_clause 86 rfl) ?_
      refine c_number1 (clBad.nz (M := M0) (tx := tx) (n := n) (k := kb) (a := ab) (by (repeat with_reducible refine clBad.row (by omega) ?_); exact hB9)) ?_
      refine pv_then1 ?_
      refine pv_iast (k := (27 + D.1)) (n := 6) (pc := 191) (rw_readLife.2.2.2 _ hl).2.2.1 (rw_readLife.2.2.2 _ hl).2.2.2.1 (rw_readLife.2.2.2 _ hl).2.2.2.2 (fm_inl (by decide)) (fm_dec dtX11_clause 87 rfl) ?_
      refine pv_aloadn (pc := 192) (n := 2) 2 rfl rfl (fm_dec dtX11_clause 88 rfl) ?_
      refine pv_iconst (pc := 193) (v := 4) (by decide) (fm_dec dtX11_clause 89 rfl) ?_
      refine pv_iconst (pc := 194) (v := (-1)) (by decide) (fm_dec dtX11_clause 90 rfl) ?_
      refine pv_iast (k := (27 + D.1)) (n := 6) (pc := 195) (rw_readLife.2.2.2 _ hl).2.2.1 (rw_readLife.2.2.2 _ hl).2.2.2.1 (rw_readLife.2.2.2 _ hl).2.2.2.2 (fm_inl (by decide)) (fm_dec dtX11_clause 91 rfl) ?_
      refine pv_aloadn (pc := 196) (n := 2) 2 rfl rfl (fm_dec dtX11_clause 92 rfl) ?_
      refine pv_iconst (pc := 197) (v := 5) (by decide) (fm_dec dtX11_clause 93 rfl) ?_
      refine pv_iconst (pc := 198) (v := (-1)) (by decide) (fm_dec dtX11_clause 94 rfl) ?_
      refine pv_iast (k := (27 + D.1)) (n := 6) (pc := 199) (rw_readLife.2.2.2 _ hl).2.2.1 (rw_readLife.2.2.2 _ hl).2.2.2.1 (rw_readLife.2.2.2 _ hl).2.2.2.2 (fm_inl (by decide)) (fm_dec dtX11_clause 95 rfl) ?_
      refine pv_goto (pc := 200) 403 (by decide) (fm_dec dtX11_clause 96 rfl) ?_
      refine pv_iloadn (pc := 403) (n := 1) 1 rfl rfl (fm_dec dtX11_clause 212 rfl) ?_
      refine pv_iconst (pc := 404) (v := 2) (by decide) (fm_dec dtX11_clause 213 rfl) ?_
      refine pv_icmp_ge (pc := 405) 429 (by decide) (fm_dec dtX11_clause 214 rfl) (fun hc405 => by exfalso; revert hc405; decide) (fun _ => ?_)
      refine pv_aloadn (pc := 408) (n := 0) 0 rfl rfl (fm_dec dtX11_clause 215 rfl) ?_
      refine pv_getR (k := 0) (j := 11) (ci := 11) (pc := 409) 3 rfl (by decide) pfl_X11_20 (by decide) rfl (by decide) (fm_dec dtX11_clause 216 rfl) ?_
      refine pv_iloadn (pc := 412) (n := 1) 1 rfl rfl (fm_dec dtX11_clause 217 rfl) ?_
      refine pv_dup2 (pc := 413) rfl rfl (fm_dec dtX11_clause 218 rfl) ?_
      refine pv_iald (k := 3) (n := 6) (pc := 414) (by decide) rfl rfl (fm_inl (by decide)) (fm_dec dtX11_clause 219 rfl) ?_
      refine pv_aloadn (pc := 415) (n := 0) 0 rfl rfl (fm_dec dtX11_clause 220 rfl) ?_
      refine pv_getI (k := 0) (j := 5) (ci := 11) (pc := 416) pfl_X11_117 (by decide) rfl (by decide) (fm_dec dtX11_clause 221 rfl) ?_
      refine pv_if_ne (pc := 419) 426 (by decide) (fm_dec dtX11_clause 222 rfl) (fun _ => ?_) (fun hc419 => by exfalso; exact (clBad.nz (M := M0) (tx := tx) (n := n) (k := kb) (a := ab) (by (repeat with_reducible refine clBad.row (by omega) ?_); exact hB9)) hc419)
      refine pv_iconst (pc := 426) (v := 0) (by decide) (fm_dec dtX11_clause 225 rfl) ?_
      refine pv_iadd (pc := 427) (fm_dec dtX11_clause 226 rfl) ?_
      refine pv_iast (k := 3) (n := 6) (pc := 428) (by decide) rfl rfl (fm_inl (by decide)) (fm_dec dtX11_clause 227 rfl) ?_
      refine pv_aloadn (pc := 429) (n := 0) 0 rfl rfl (fm_dec dtX11_clause 228 rfl) ?_
      refine pv_bipush (pc := 430) (v := 59) (by decide) (fm_dec dtX11_clause 229 rfl) ?_
      refine pv_invV1 (k := 0) (d' := 2) (pc := 432) pcv_X11_173 (by decide) rfl (Nat.le_of_ble_eq_true rfl) (by decide) (fm_dec dtX11_clause 230 rfl) ?_
      refine c_sign1 (clBad.nz (M := M0) (tx := tx) (n := n) (k := kb) (a := ab) (by (repeat with_reducible refine clBad.row (by omega) ?_); exact hB9)) ?_
      refine pv_then0 ?_
      exact pv_return (pc := 435) rfl (fm_dec dtX11_clause 231 rfl) (hbad _ kb ab (by simp only [spLife, spBind, e158, eb]) (by (repeat with_reducible refine clBad.row (by omega) ?_); exact hB9))
  · refine pv_then1 ?_
    have hB9 := clBad.of (hF).1 hB
    refine pv_iast (k := (27 + D.1)) (n := 6) (pc := 161) (rw_readLife.2.2.2 _ hl).2.2.1 (rw_readLife.2.2.2 _ hl).2.2.2.1 (rw_readLife.2.2.2 _ hl).2.2.2.2 (fm_inl (by decide)) (fm_dec dtX11_clause 66 rfl) ?_
    refine pv_aloadn (pc := 162) (n := 2) 2 rfl rfl (fm_dec dtX11_clause 67 rfl) ?_
    refine pv_iconst (pc := 163) (v := 1) (by decide) (fm_dec dtX11_clause 68 rfl) ?_
    refine pv_aloadn (pc := 164) (n := 0) 0 rfl rfl (fm_dec dtX11_clause 69 rfl) ?_
    refine pv_iconst (pc := 165) (v := 0) (by decide) (fm_dec dtX11_clause 70 rfl) ?_
    refine pv_bipush (pc := 166) (v := 64) (by decide) (fm_dec dtX11_clause 71 rfl) ?_
    refine pv_invV2 (k := 0) (d' := 2) (pc := 168) pcv_X11_163 (by decide) rfl (Nat.le_of_ble_eq_true rfl) (by decide) (fm_dec dtX11_clause 72 rfl) ?_
    refine c_number1 (clBad.nz (M := M0) (tx := tx) (n := n) (k := kb) (a := ab) (by (repeat with_reducible refine clBad.row (by omega) ?_); exact hB9)) ?_
    refine pv_then1 ?_
    refine pv_iast (k := (27 + D.1)) (n := 6) (pc := 171) (rw_readLife.2.2.2 _ hl).2.2.1 (rw_readLife.2.2.2 _ hl).2.2.2.1 (rw_readLife.2.2.2 _ hl).2.2.2.2 (fm_inl (by decide)) (fm_dec dtX11_clause 73 rfl) ?_
    refine pv_aloadn (pc := 172) (n := 2) 2 rfl rfl (fm_dec dtX11_clause 74 rfl) ?_
    refine pv_iconst (pc := 173) (v := 2) (by decide) (fm_dec dtX11_clause 75 rfl) ?_
    refine pv_aloadn (pc := 174) (n := 0) 0 rfl rfl (fm_dec dtX11_clause 76 rfl) ?_
    refine pv_iconst (pc := 175) (v := 1) (by decide) (fm_dec dtX11_clause 77 rfl) ?_
    refine pv_bipush (pc := 176) (v := 99) (by decide) (fm_dec dtX11_clause 78 rfl) ?_
    refine pv_invV2 (k := 0) (d' := 2) (pc := 178) pcv_X11_163 (by decide) rfl (Nat.le_of_ble_eq_true rfl) (by decide) (fm_dec dtX11_clause 79 rfl) ?_
    refine c_number1 (clBad.nz (M := M0) (tx := tx) (n := n) (k := kb) (a := ab) (by (repeat with_reducible refine clBad.row (by omega) ?_); exact hB9)) ?_
    refine pv_then1 ?_
    refine pv_iast (k := (27 + D.1)) (n := 6) (pc := 181) (rw_readLife.2.2.2 _ hl).2.2.1 (rw_readLife.2.2.2 _ hl).2.2.2.1 (rw_readLife.2.2.2 _ hl).2.2.2.2 (fm_inl (by decide)) (fm_dec dtX11_clause 80 rfl) ?_
    refine pv_aloadn (pc := 182) (n := 2) 2 rfl rfl (fm_dec dtX11_clause 81 rfl) ?_
    refine pv_iconst (pc := 183) (v := 3) (by decide) (fm_dec dtX11_clause 82 rfl) ?_
    refine pv_aloadn (pc := 184) (n := 0) 0 rfl rfl (fm_dec dtX11_clause 83 rfl) ?_
    refine pv_iconst (pc := 185) (v := 1) (by decide) (fm_dec dtX11_clause 84 rfl) ?_
    refine pv_bipush (pc := 186) (v := 9) (by decide) (fm_dec dtX11_clause 85 rfl) ?_
    refine pv_invV2 (k := 0) (d' := 2) (pc := 188) pcv_X11_163 (by decide) rfl (Nat.le_of_ble_eq_true rfl) (by decide) (fm_dec dtX11_clause 86 rfl) ?_
    refine c_number1 (clBad.nz (M := M0) (tx := tx) (n := n) (k := kb) (a := ab) (by (repeat with_reducible refine clBad.row (by omega) ?_); exact hB9)) ?_
    refine pv_then1 ?_
    refine pv_iast (k := (27 + D.1)) (n := 6) (pc := 191) (rw_readLife.2.2.2 _ hl).2.2.1 (rw_readLife.2.2.2 _ hl).2.2.2.1 (rw_readLife.2.2.2 _ hl).2.2.2.2 (fm_inl (by decide)) (fm_dec dtX11_clause 87 rfl) ?_
    refine pv_aloadn (pc := 192) (n := 2) 2 rfl rfl (fm_dec dtX11_clause 88 rfl) ?_
    refine pv_iconst (pc := 193) (v := 4) (by decide) (fm_dec dtX11_clause 89 rfl) ?_
    refine pv_iconst (pc := 194) (v := (-1)) (by decide) (fm_dec dtX11_clause 90 rfl) ?_
    refine pv_iast (k := (27 + D.1)) (n := 6) (pc := 195) (rw_readLife.2.2.2 _ hl).2.2.1 (rw_readLife.2.2.2 _ hl).2.2.2.1 (rw_readLife.2.2.2 _ hl).2.2.2.2 (fm_inl (by decide)) (fm_dec dtX11_clause 91 rfl) ?_
    refine pv_aloadn (pc := 196) (n := 2) 2 rfl rfl (fm_dec dtX11_clause 92 rfl) ?_
    refine pv_iconst (pc := 197) (v := 5) (by decide) (fm_dec dtX11_clause 93 rfl) ?_
    refine pv_iconst (pc := 198) (v := (-1)) (by decide) (fm_dec dtX11_clause 94 rfl) ?_
    refine pv_iast (k := (27 + D.1)) (n := 6) (pc := 199) (rw_readLife.2.2.2 _ hl).2.2.1 (rw_readLife.2.2.2 _ hl).2.2.2.1 (rw_readLife.2.2.2 _ hl).2.2.2.2 (fm_inl (by decide)) (fm_dec dtX11_clause 95 rfl) ?_
    refine pv_goto (pc := 200) 403 (by decide) (fm_dec dtX11_clause 96 rfl) ?_
    refine pv_iloadn (pc := 403) (n := 1) 1 rfl rfl (fm_dec dtX11_clause 212 rfl) ?_
    refine pv_iconst (pc := 404) (v := 2) (by decide) (fm_dec dtX11_clause 213 rfl) ?_
    refine pv_icmp_ge (pc := 405) 429 (by decide) (fm_dec dtX11_clause 214 rfl) (fun hc405 => by exfalso; revert hc405; decide) (fun _ => ?_)
    refine pv_aloadn (pc := 408) (n := 0) 0 rfl rfl (fm_dec dtX11_clause 215 rfl) ?_
    refine pv_getR (k := 0) (j := 11) (ci := 11) (pc := 409) 3 rfl (by decide) pfl_X11_20 (by decide) rfl (by decide) (fm_dec dtX11_clause 216 rfl) ?_
    refine pv_iloadn (pc := 412) (n := 1) 1 rfl rfl (fm_dec dtX11_clause 217 rfl) ?_
    refine pv_dup2 (pc := 413) rfl rfl (fm_dec dtX11_clause 218 rfl) ?_
    refine pv_iald (k := 3) (n := 6) (pc := 414) (by decide) rfl rfl (fm_inl (by decide)) (fm_dec dtX11_clause 219 rfl) ?_
    refine pv_aloadn (pc := 415) (n := 0) 0 rfl rfl (fm_dec dtX11_clause 220 rfl) ?_
    refine pv_getI (k := 0) (j := 5) (ci := 11) (pc := 416) pfl_X11_117 (by decide) rfl (by decide) (fm_dec dtX11_clause 221 rfl) ?_
    refine pv_if_ne (pc := 419) 426 (by decide) (fm_dec dtX11_clause 222 rfl) (fun _ => ?_) (fun hc419 => by exfalso; exact (clBad.nz (M := M0) (tx := tx) (n := n) (k := kb) (a := ab) (by (repeat with_reducible refine clBad.row (by omega) ?_); exact hB9)) hc419)
    refine pv_iconst (pc := 426) (v := 0) (by decide) (fm_dec dtX11_clause 225 rfl) ?_
    refine pv_iadd (pc := 427) (fm_dec dtX11_clause 226 rfl) ?_
    refine pv_iast (k := 3) (n := 6) (pc := 428) (by decide) rfl rfl (fm_inl (by decide)) (fm_dec dtX11_clause 227 rfl) ?_
    refine pv_aloadn (pc := 429) (n := 0) 0 rfl rfl (fm_dec dtX11_clause 228 rfl) ?_
    refine pv_bipush (pc := 430) (v := 59) (by decide) (fm_dec dtX11_clause 229 rfl) ?_
    refine pv_invV1 (k := 0) (d' := 2) (pc := 432) pcv_X11_173 (by decide) rfl (Nat.le_of_ble_eq_true rfl) (by decide) (fm_dec dtX11_clause 230 rfl) ?_
    refine c_sign1 (clBad.nz (M := M0) (tx := tx) (n := n) (k := kb) (a := ab) (by (repeat with_reducible refine clBad.row (by omega) ?_); exact hB9)) ?_
    refine pv_then0 ?_
    exact pv_return (pc := 435) rfl (fm_dec dtX11_clause 231 rfl) (hbad _ kb ab (by simp only [spLife, spBind, eb]) (by (repeat with_reducible refine clBad.row (by omega) ?_); exact hB9))
set_option maxRecDepth 20000 in
theorem cl_1 {Q : fmR → fmM → Prop} {M0 M : fmM} {tx : tX} {n q : Nat} {D : dD} {v2 v3 v4 : Option Value} (hS : rS M tx n q) (hf : M.1 0 5 = 0) (hR : dRep M D) (hD : dOk D) (hF : clI M0 M) (hl : D.2.2.1 < 24) (hok : ∀ (M' : fmM) (D' : dD) (q' : Nat), spFact tx D q = .inr (D', q') → clOk M0 M' tx n q' D' → Q (.inl none) M') (hbad : ∀ (M' : fmM) (k a : Nat), spFact tx D q = .inl (k, a) → clBad M0 M' tx n k a → Q (.inl none) M') : pvEv Tm 5 qX11_clause 93 [some (.ref 0), some (.int 1), v2, v3, v4] [] M Q := by
  refine pv_iloadn (pc := 93) (n := 1) 1 rfl rfl (fm_dec dtX11_clause 50 rfl) ?_
  refine pv_table (pc := 94) 203 (by decide) rfl (fm_dec dtX11_clause 51 rfl) ?_
  refine pv_aloadn (pc := 203) (n := 0) 0 rfl rfl (fm_dec dtX11_clause 97 rfl) ?_
  refine pv_getR (k := 0) (j := 15) (ci := 11) (pc := 204) 18 rfl (by decide) pfl_X11_34 (by decide) rfl (by decide) (fm_dec dtX11_clause 98 rfl) ?_
  refine pv_aloadn (pc := 207) (n := 0) 0 rfl rfl (fm_dec dtX11_clause 99 rfl) ?_
  refine pv_getR (k := 0) (j := 11) (ci := 11) (pc := 208) 3 rfl (by decide) pfl_X11_20 (by decide) rfl (by decide) (fm_dec dtX11_clause 100 rfl) ?_
  refine pv_iconst (pc := 211) (v := 1) (by decide) (fm_dec dtX11_clause 101 rfl) ?_
  refine pv_iald (k := 3) (n := 6) (pc := 212) (by decide) rfl rfl (fm_inl (by decide)) (fm_dec dtX11_clause 102 rfl) ?_
  refine pv_aald (k := 18) (n := 24) (r := (43 + D.2.2.1)) (pc := 213) (by decide) (Or.inr (Or.inr rfl)) rfl (rw_readFact.inb hR.2.1 hl) (rw_readFact.at hR.2.1 hl) (rw_readFact.2.2.2 _ hl).2.1 (fm_dec dtX11_clause 103 rfl) ?_
  refine pv_astoren (pc := 214) (n := 2) 2 rfl (by decide) rfl (fm_dec dtX11_clause 104 rfl) ?_
  dsimp only [List.set_cons_zero, List.set_cons_succ]
  refine pv_aloadn (pc := 215) (n := 2) 2 rfl rfl (fm_dec dtX11_clause 105 rfl) ?_
  refine pv_iconst (pc := 216) (v := 0) (by decide) (fm_dec dtX11_clause 106 rfl) ?_
  refine pv_aloadn (pc := 217) (n := 0) 0 rfl rfl (fm_dec dtX11_clause 107 rfl) ?_
  refine pv_invV0 (k := 0) (d' := 3) (pc := 218) pcv_X11_170 (by decide) rfl (Nat.le_of_ble_eq_true rfl) (by decide) (fm_dec dtX11_clause 108 rfl) ?_
  refine c_lifeHere (l := D.1) (⟨hS, hf, rdFr.refl M⟩ : rdOk M M tx n q).1 (⟨hS, hf, rdFr.refl M⟩ : rdOk M M tx n q).2.1 hR.1 hD.1 (fun M218 v218 q218 w218 e218 hw218 k218 => ?_) (fun Mb kb ab eb hB => ?_)  
  · refine pv_then1 ?_
    refine pv_iast (k := (43 + D.2.2.1)) (n := 3) (pc := 221) (rw_readFact.2.2.2 _ hl).2.2.1 (rw_readFact.2.2.2 _ hl).2.2.2.1 (rw_readFact.2.2.2 _ hl).2.2.2.2 (fm_inl (by decide)) (fm_dec dtX11_clause 109 rfl) ?_
    refine pv_aloadn (pc := 222) (n := 2) 2 rfl rfl (fm_dec dtX11_clause 110 rfl) ?_
    refine pv_iconst (pc := 223) (v := 1) (by decide) (fm_dec dtX11_clause 111 rfl) ?_
    refine pv_aloadn (pc := 224) (n := 0) 0 rfl rfl (fm_dec dtX11_clause 112 rfl) ?_
    refine pv_iconst (pc := 225) (v := 0) (by decide) (fm_dec dtX11_clause 113 rfl) ?_
    refine pv_iconst (pc := 226) (v := 5) (by decide) (fm_dec dtX11_clause 114 rfl) ?_
    refine pv_invV2 (k := 0) (d' := 2) (pc := 227) pcv_X11_163 (by decide) rfl (Nat.le_of_ble_eq_true rfl) (by decide) (fm_dec dtX11_clause 115 rfl) ?_
    refine r_num (tx := tx) (n := n) (p := q218) 0 5 ⟨by decide, by decide, by decide⟩ (by (repeat with_reducible refine rS.row ?_ ⟨by omega, by omega⟩); exact k218.1) (by (repeat with_reducible refine f0.row ?_ (by omega)); exact k218.2.1) (fun M227 v227 q227 w227 e227 hw227 k227 => ?_) (fun Mb kb ab eb hB => ?_)  
    · refine pv_then1 ?_
      refine pv_iast (k := (43 + D.2.2.1)) (n := 3) (pc := 230) (rw_readFact.2.2.2 _ hl).2.2.1 (rw_readFact.2.2.2 _ hl).2.2.2.1 (rw_readFact.2.2.2 _ hl).2.2.2.2 (fm_inl (by decide)) (fm_dec dtX11_clause 116 rfl) ?_
      refine pv_aloadn (pc := 231) (n := 2) 2 rfl rfl (fm_dec dtX11_clause 117 rfl) ?_
      refine pv_iconst (pc := 232) (v := 2) (by decide) (fm_dec dtX11_clause 118 rfl) ?_
      refine pv_aloadn (pc := 233) (n := 0) 0 rfl rfl (fm_dec dtX11_clause 119 rfl) ?_
      refine pv_iconst (pc := 234) (v := 1) (by decide) (fm_dec dtX11_clause 120 rfl) ?_
      refine pv_bipush (pc := 235) (v := 60) (by decide) (fm_dec dtX11_clause 121 rfl) ?_
      refine pv_invV2 (k := 0) (d' := 2) (pc := 237) pcv_X11_163 (by decide) rfl (Nat.le_of_ble_eq_true rfl) (by decide) (fm_dec dtX11_clause 122 rfl) ?_
      refine r_num (tx := tx) (n := n) (p := q227) 1 60 ⟨by decide, by decide, by decide⟩ (by (repeat with_reducible refine rS.row ?_ ⟨by omega, by omega⟩); exact k227.1) (by (repeat with_reducible refine f0.row ?_ (by omega)); exact k227.2.1) (fun M237 v237 q237 w237 e237 hw237 k237 => ?_) (fun Mb kb ab eb hB => ?_)  
      · refine pv_then1 ?_
        refine pv_iast (k := (43 + D.2.2.1)) (n := 3) (pc := 240) (rw_readFact.2.2.2 _ hl).2.2.1 (rw_readFact.2.2.2 _ hl).2.2.2.1 (rw_readFact.2.2.2 _ hl).2.2.2.2 (fm_inl (by decide)) (fm_dec dtX11_clause 123 rfl) ?_
        refine pv_goto (pc := 241) 403 (by decide) (fm_dec dtX11_clause 124 rfl) ?_
        refine pv_iloadn (pc := 403) (n := 1) 1 rfl rfl (fm_dec dtX11_clause 212 rfl) ?_
        refine pv_iconst (pc := 404) (v := 2) (by decide) (fm_dec dtX11_clause 213 rfl) ?_
        refine pv_icmp_ge (pc := 405) 429 (by decide) (fm_dec dtX11_clause 214 rfl) (fun hc405 => by exfalso; revert hc405; decide) (fun _ => ?_)
        refine pv_aloadn (pc := 408) (n := 0) 0 rfl rfl (fm_dec dtX11_clause 215 rfl) ?_
        refine pv_getR (k := 0) (j := 11) (ci := 11) (pc := 409) 3 rfl (by decide) pfl_X11_20 (by decide) rfl (by decide) (fm_dec dtX11_clause 216 rfl) ?_
        refine pv_iloadn (pc := 412) (n := 1) 1 rfl rfl (fm_dec dtX11_clause 217 rfl) ?_
        refine pv_dup2 (pc := 413) rfl rfl (fm_dec dtX11_clause 218 rfl) ?_
        refine pv_iald (k := 3) (n := 6) (pc := 414) (by decide) rfl rfl (fm_inl (by decide)) (fm_dec dtX11_clause 219 rfl) ?_
        refine pv_aloadn (pc := 415) (n := 0) 0 rfl rfl (fm_dec dtX11_clause 220 rfl) ?_
        refine pv_getI (k := 0) (j := 5) (ci := 11) (pc := 416) pfl_X11_117 (by decide) rfl (by decide) (fm_dec dtX11_clause 221 rfl) ?_
        refine pv_if_ne (pc := 419) 426 (by decide) (fm_dec dtX11_clause 222 rfl) (fun hc419 => by exfalso; exact hc419 (by (repeat with_reducible refine f0.row ?_ (by omega)); exact k237.2.1)) (fun _ => ?_)
        refine pv_iconst (pc := 422) (v := 1) (by decide) (fm_dec dtX11_clause 223 rfl) ?_
        refine pv_goto (pc := 423) 427 (by decide) (fm_dec dtX11_clause 224 rfl) ?_
        refine pv_iadd (pc := 427) (fm_dec dtX11_clause 226 rfl) ?_
        refine pv_iast (k := 3) (n := 6) (pc := 428) (by decide) rfl rfl (fm_inl (by decide)) (fm_dec dtX11_clause 227 rfl) ?_
        refine pv_aloadn (pc := 429) (n := 0) 0 rfl rfl (fm_dec dtX11_clause 228 rfl) ?_
        refine pv_bipush (pc := 430) (v := 59) (by decide) (fm_dec dtX11_clause 229 rfl) ?_
        refine pv_invV1 (k := 0) (d' := 2) (pc := 432) pcv_X11_173 (by decide) rfl (Nat.le_of_ble_eq_true rfl) (by decide) (fm_dec dtX11_clause 230 rfl) ?_
        refine r_sign (tx := tx) (n := n) (p := q237) 59 ⟨by decide, by decide⟩ (by (repeat with_reducible refine rS.row ?_ ⟨by omega, by omega⟩); exact k237.1) (by (repeat with_reducible refine f0.row ?_ (by omega)); exact k237.2.1) (fun M432 q432 e432 k432 => ?_) (fun Mb kb ab eb hB => ?_)  
        · refine pv_then0 ?_
          exact pv_return (pc := 435) rfl (fm_dec dtX11_clause 231 rfl) (hok _ _ _ (by simp only [spFact, spBind, e218, e227, e237, e432]) ⟨k432.1, k432.2.1, rep_fact hR hD.1 hl k218.2.2 k227.2.2 k237.2.2 k432.2.2 hw218 hw227 hw237, ((((((((hF.rd k218.2.2).row (by omega)).rd k227.2.2).row (by omega)).rd k237.2.2).row (by omega)).row (Or.inl rfl)).rd k432.2.2).2, ((((((((hF.rd k218.2.2).row (by omega)).rd k227.2.2).row (by omega)).rd k237.2.2).row (by omega)).row (Or.inl rfl)).rd k432.2.2).1⟩)
        · refine pv_then0 ?_
          have hB9 := clBad.of (((((((hF.rd k218.2.2).row (by omega)).rd k227.2.2).row (by omega)).rd k237.2.2).row (by omega)).row (Or.inl rfl)).1 hB
          exact pv_return (pc := 435) rfl (fm_dec dtX11_clause 231 rfl) (hbad _ kb ab (by simp only [spFact, spBind, e218, e227, e237, eb]) (by (repeat with_reducible refine clBad.row (by omega) ?_); exact hB9))
      · refine pv_then1 ?_
        have hB9 := clBad.of ((((hF.rd k218.2.2).row (by omega)).rd k227.2.2).row (by omega)).1 hB
        refine pv_iast (k := (43 + D.2.2.1)) (n := 3) (pc := 240) (rw_readFact.2.2.2 _ hl).2.2.1 (rw_readFact.2.2.2 _ hl).2.2.2.1 (rw_readFact.2.2.2 _ hl).2.2.2.2 (fm_inl (by decide)) (fm_dec dtX11_clause 123 rfl) ?_
        refine pv_goto (pc := 241) 403 (by decide) (fm_dec dtX11_clause 124 rfl) ?_
        refine pv_iloadn (pc := 403) (n := 1) 1 rfl rfl (fm_dec dtX11_clause 212 rfl) ?_
        refine pv_iconst (pc := 404) (v := 2) (by decide) (fm_dec dtX11_clause 213 rfl) ?_
        refine pv_icmp_ge (pc := 405) 429 (by decide) (fm_dec dtX11_clause 214 rfl) (fun hc405 => by exfalso; revert hc405; decide) (fun _ => ?_)
        refine pv_aloadn (pc := 408) (n := 0) 0 rfl rfl (fm_dec dtX11_clause 215 rfl) ?_
        refine pv_getR (k := 0) (j := 11) (ci := 11) (pc := 409) 3 rfl (by decide) pfl_X11_20 (by decide) rfl (by decide) (fm_dec dtX11_clause 216 rfl) ?_
        refine pv_iloadn (pc := 412) (n := 1) 1 rfl rfl (fm_dec dtX11_clause 217 rfl) ?_
        refine pv_dup2 (pc := 413) rfl rfl (fm_dec dtX11_clause 218 rfl) ?_
        refine pv_iald (k := 3) (n := 6) (pc := 414) (by decide) rfl rfl (fm_inl (by decide)) (fm_dec dtX11_clause 219 rfl) ?_
        refine pv_aloadn (pc := 415) (n := 0) 0 rfl rfl (fm_dec dtX11_clause 220 rfl) ?_
        refine pv_getI (k := 0) (j := 5) (ci := 11) (pc := 416) pfl_X11_117 (by decide) rfl (by decide) (fm_dec dtX11_clause 221 rfl) ?_
        refine pv_if_ne (pc := 419) 426 (by decide) (fm_dec dtX11_clause 222 rfl) (fun _ => ?_) (fun hc419 => by exfalso; exact (clBad.nz (M := M0) (tx := tx) (n := n) (k := kb) (a := ab) (by (repeat with_reducible refine clBad.row (by omega) ?_); exact hB9)) hc419)
        refine pv_iconst (pc := 426) (v := 0) (by decide) (fm_dec dtX11_clause 225 rfl) ?_
        refine pv_iadd (pc := 427) (fm_dec dtX11_clause 226 rfl) ?_
        refine pv_iast (k := 3) (n := 6) (pc := 428) (by decide) rfl rfl (fm_inl (by decide)) (fm_dec dtX11_clause 227 rfl) ?_
        refine pv_aloadn (pc := 429) (n := 0) 0 rfl rfl (fm_dec dtX11_clause 228 rfl) ?_
        refine pv_bipush (pc := 430) (v := 59) (by decide) (fm_dec dtX11_clause 229 rfl) ?_
        refine pv_invV1 (k := 0) (d' := 2) (pc := 432) pcv_X11_173 (by decide) rfl (Nat.le_of_ble_eq_true rfl) (by decide) (fm_dec dtX11_clause 230 rfl) ?_
        refine c_sign1 (clBad.nz (M := M0) (tx := tx) (n := n) (k := kb) (a := ab) (by (repeat with_reducible refine clBad.row (by omega) ?_); exact hB9)) ?_
        refine pv_then0 ?_
        exact pv_return (pc := 435) rfl (fm_dec dtX11_clause 231 rfl) (hbad _ kb ab (by simp only [spFact, spBind, e218, e227, eb]) (by (repeat with_reducible refine clBad.row (by omega) ?_); exact hB9))
    · refine pv_then1 ?_
      have hB9 := clBad.of ((hF.rd k218.2.2).row (by omega)).1 hB
      refine pv_iast (k := (43 + D.2.2.1)) (n := 3) (pc := 230) (rw_readFact.2.2.2 _ hl).2.2.1 (rw_readFact.2.2.2 _ hl).2.2.2.1 (rw_readFact.2.2.2 _ hl).2.2.2.2 (fm_inl (by decide)) (fm_dec dtX11_clause 116 rfl) ?_
      refine pv_aloadn (pc := 231) (n := 2) 2 rfl rfl (fm_dec dtX11_clause 117 rfl) ?_
      refine pv_iconst (pc := 232) (v := 2) (by decide) (fm_dec dtX11_clause 118 rfl) ?_
      refine pv_aloadn (pc := 233) (n := 0) 0 rfl rfl (fm_dec dtX11_clause 119 rfl) ?_
      refine pv_iconst (pc := 234) (v := 1) (by decide) (fm_dec dtX11_clause 120 rfl) ?_
      refine pv_bipush (pc := 235) (v := 60) (by decide) (fm_dec dtX11_clause 121 rfl) ?_
      refine pv_invV2 (k := 0) (d' := 2) (pc := 237) pcv_X11_163 (by decide) rfl (Nat.le_of_ble_eq_true rfl) (by decide) (fm_dec dtX11_clause 122 rfl) ?_
      refine c_number1 (clBad.nz (M := M0) (tx := tx) (n := n) (k := kb) (a := ab) (by (repeat with_reducible refine clBad.row (by omega) ?_); exact hB9)) ?_
      refine pv_then1 ?_
      refine pv_iast (k := (43 + D.2.2.1)) (n := 3) (pc := 240) (rw_readFact.2.2.2 _ hl).2.2.1 (rw_readFact.2.2.2 _ hl).2.2.2.1 (rw_readFact.2.2.2 _ hl).2.2.2.2 (fm_inl (by decide)) (fm_dec dtX11_clause 123 rfl) ?_
      refine pv_goto (pc := 241) 403 (by decide) (fm_dec dtX11_clause 124 rfl) ?_
      refine pv_iloadn (pc := 403) (n := 1) 1 rfl rfl (fm_dec dtX11_clause 212 rfl) ?_
      refine pv_iconst (pc := 404) (v := 2) (by decide) (fm_dec dtX11_clause 213 rfl) ?_
      refine pv_icmp_ge (pc := 405) 429 (by decide) (fm_dec dtX11_clause 214 rfl) (fun hc405 => by exfalso; revert hc405; decide) (fun _ => ?_)
      refine pv_aloadn (pc := 408) (n := 0) 0 rfl rfl (fm_dec dtX11_clause 215 rfl) ?_
      refine pv_getR (k := 0) (j := 11) (ci := 11) (pc := 409) 3 rfl (by decide) pfl_X11_20 (by decide) rfl (by decide) (fm_dec dtX11_clause 216 rfl) ?_
      refine pv_iloadn (pc := 412) (n := 1) 1 rfl rfl (fm_dec dtX11_clause 217 rfl) ?_
      refine pv_dup2 (pc := 413) rfl rfl (fm_dec dtX11_clause 218 rfl) ?_
      refine pv_iald (k := 3) (n := 6) (pc := 414) (by decide) rfl rfl (fm_inl (by decide)) (fm_dec dtX11_clause 219 rfl) ?_
      refine pv_aloadn (pc := 415) (n := 0) 0 rfl rfl (fm_dec dtX11_clause 220 rfl) ?_
      refine pv_getI (k := 0) (j := 5) (ci := 11) (pc := 416) pfl_X11_117 (by decide) rfl (by decide) (fm_dec dtX11_clause 221 rfl) ?_
      refine pv_if_ne (pc := 419) 426 (by decide) (fm_dec dtX11_clause 222 rfl) (fun _ => ?_) (fun hc419 => by exfalso; exact (clBad.nz (M := M0) (tx := tx) (n := n) (k := kb) (a := ab) (by (repeat with_reducible refine clBad.row (by omega) ?_); exact hB9)) hc419)
      refine pv_iconst (pc := 426) (v := 0) (by decide) (fm_dec dtX11_clause 225 rfl) ?_
      refine pv_iadd (pc := 427) (fm_dec dtX11_clause 226 rfl) ?_
      refine pv_iast (k := 3) (n := 6) (pc := 428) (by decide) rfl rfl (fm_inl (by decide)) (fm_dec dtX11_clause 227 rfl) ?_
      refine pv_aloadn (pc := 429) (n := 0) 0 rfl rfl (fm_dec dtX11_clause 228 rfl) ?_
      refine pv_bipush (pc := 430) (v := 59) (by decide) (fm_dec dtX11_clause 229 rfl) ?_
      refine pv_invV1 (k := 0) (d' := 2) (pc := 432) pcv_X11_173 (by decide) rfl (Nat.le_of_ble_eq_true rfl) (by decide) (fm_dec dtX11_clause 230 rfl) ?_
      refine c_sign1 (clBad.nz (M := M0) (tx := tx) (n := n) (k := kb) (a := ab) (by (repeat with_reducible refine clBad.row (by omega) ?_); exact hB9)) ?_
      refine pv_then0 ?_
      exact pv_return (pc := 435) rfl (fm_dec dtX11_clause 231 rfl) (hbad _ kb ab (by simp only [spFact, spBind, e218, eb]) (by (repeat with_reducible refine clBad.row (by omega) ?_); exact hB9))
  · refine pv_then1 ?_
    have hB9 := clBad.of (hF).1 hB
    refine pv_iast (k := (43 + D.2.2.1)) (n := 3) (pc := 221) (rw_readFact.2.2.2 _ hl).2.2.1 (rw_readFact.2.2.2 _ hl).2.2.2.1 (rw_readFact.2.2.2 _ hl).2.2.2.2 (fm_inl (by decide)) (fm_dec dtX11_clause 109 rfl) ?_
    refine pv_aloadn (pc := 222) (n := 2) 2 rfl rfl (fm_dec dtX11_clause 110 rfl) ?_
    refine pv_iconst (pc := 223) (v := 1) (by decide) (fm_dec dtX11_clause 111 rfl) ?_
    refine pv_aloadn (pc := 224) (n := 0) 0 rfl rfl (fm_dec dtX11_clause 112 rfl) ?_
    refine pv_iconst (pc := 225) (v := 0) (by decide) (fm_dec dtX11_clause 113 rfl) ?_
    refine pv_iconst (pc := 226) (v := 5) (by decide) (fm_dec dtX11_clause 114 rfl) ?_
    refine pv_invV2 (k := 0) (d' := 2) (pc := 227) pcv_X11_163 (by decide) rfl (Nat.le_of_ble_eq_true rfl) (by decide) (fm_dec dtX11_clause 115 rfl) ?_
    refine c_number1 (clBad.nz (M := M0) (tx := tx) (n := n) (k := kb) (a := ab) (by (repeat with_reducible refine clBad.row (by omega) ?_); exact hB9)) ?_
    refine pv_then1 ?_
    refine pv_iast (k := (43 + D.2.2.1)) (n := 3) (pc := 230) (rw_readFact.2.2.2 _ hl).2.2.1 (rw_readFact.2.2.2 _ hl).2.2.2.1 (rw_readFact.2.2.2 _ hl).2.2.2.2 (fm_inl (by decide)) (fm_dec dtX11_clause 116 rfl) ?_
    refine pv_aloadn (pc := 231) (n := 2) 2 rfl rfl (fm_dec dtX11_clause 117 rfl) ?_
    refine pv_iconst (pc := 232) (v := 2) (by decide) (fm_dec dtX11_clause 118 rfl) ?_
    refine pv_aloadn (pc := 233) (n := 0) 0 rfl rfl (fm_dec dtX11_clause 119 rfl) ?_
    refine pv_iconst (pc := 234) (v := 1) (by decide) (fm_dec dtX11_clause 120 rfl) ?_
    refine pv_bipush (pc := 235) (v := 60) (by decide) (fm_dec dtX11_clause 121 rfl) ?_
    refine pv_invV2 (k := 0) (d' := 2) (pc := 237) pcv_X11_163 (by decide) rfl (Nat.le_of_ble_eq_true rfl) (by decide) (fm_dec dtX11_clause 122 rfl) ?_
    refine c_number1 (clBad.nz (M := M0) (tx := tx) (n := n) (k := kb) (a := ab) (by (repeat with_reducible refine clBad.row (by omega) ?_); exact hB9)) ?_
    refine pv_then1 ?_
    refine pv_iast (k := (43 + D.2.2.1)) (n := 3) (pc := 240) (rw_readFact.2.2.2 _ hl).2.2.1 (rw_readFact.2.2.2 _ hl).2.2.2.1 (rw_readFact.2.2.2 _ hl).2.2.2.2 (fm_inl (by decide)) (fm_dec dtX11_clause 123 rfl) ?_
    refine pv_goto (pc := 241) 403 (by decide) (fm_dec dtX11_clause 124 rfl) ?_
    refine pv_iloadn (pc := 403) (n := 1) 1 rfl rfl (fm_dec dtX11_clause 212 rfl) ?_
    refine pv_iconst (pc := 404) (v := 2) (by decide) (fm_dec dtX11_clause 213 rfl) ?_
    refine pv_icmp_ge (pc := 405) 429 (by decide) (fm_dec dtX11_clause 214 rfl) (fun hc405 => by exfalso; revert hc405; decide) (fun _ => ?_)
    refine pv_aloadn (pc := 408) (n := 0) 0 rfl rfl (fm_dec dtX11_clause 215 rfl) ?_
    refine pv_getR (k := 0) (j := 11) (ci := 11) (pc := 409) 3 rfl (by decide) pfl_X11_20 (by decide) rfl (by decide) (fm_dec dtX11_clause 216 rfl) ?_
    refine pv_iloadn (pc := 412) (n := 1) 1 rfl rfl (fm_dec dtX11_clause 217 rfl) ?_
    refine pv_dup2 (pc := 413) rfl rfl (fm_dec dtX11_clause 218 rfl) ?_
    refine pv_iald (k := 3) (n := 6) (pc := 414) (by decide) rfl rfl (fm_inl (by decide)) (fm_dec dtX11_clause 219 rfl) ?_
    refine pv_aloadn (pc := 415) (n := 0) 0 rfl rfl (fm_dec dtX11_clause 220 rfl) ?_
    refine pv_getI (k := 0) (j := 5) (ci := 11) (pc := 416) pfl_X11_117 (by decide) rfl (by decide) (fm_dec dtX11_clause 221 rfl) ?_
    refine pv_if_ne (pc := 419) 426 (by decide) (fm_dec dtX11_clause 222 rfl) (fun _ => ?_) (fun hc419 => by exfalso; exact (clBad.nz (M := M0) (tx := tx) (n := n) (k := kb) (a := ab) (by (repeat with_reducible refine clBad.row (by omega) ?_); exact hB9)) hc419)
    refine pv_iconst (pc := 426) (v := 0) (by decide) (fm_dec dtX11_clause 225 rfl) ?_
    refine pv_iadd (pc := 427) (fm_dec dtX11_clause 226 rfl) ?_
    refine pv_iast (k := 3) (n := 6) (pc := 428) (by decide) rfl rfl (fm_inl (by decide)) (fm_dec dtX11_clause 227 rfl) ?_
    refine pv_aloadn (pc := 429) (n := 0) 0 rfl rfl (fm_dec dtX11_clause 228 rfl) ?_
    refine pv_bipush (pc := 430) (v := 59) (by decide) (fm_dec dtX11_clause 229 rfl) ?_
    refine pv_invV1 (k := 0) (d' := 2) (pc := 432) pcv_X11_173 (by decide) rfl (Nat.le_of_ble_eq_true rfl) (by decide) (fm_dec dtX11_clause 230 rfl) ?_
    refine c_sign1 (clBad.nz (M := M0) (tx := tx) (n := n) (k := kb) (a := ab) (by (repeat with_reducible refine clBad.row (by omega) ?_); exact hB9)) ?_
    refine pv_then0 ?_
    exact pv_return (pc := 435) rfl (fm_dec dtX11_clause 231 rfl) (hbad _ kb ab (by simp only [spFact, spBind, eb]) (by (repeat with_reducible refine clBad.row (by omega) ?_); exact hB9))
set_option maxRecDepth 20000 in
theorem cl_2 {Q : fmR → fmM → Prop} {M0 M : fmM} {tx : tX} {n q : Nat} {D : dD} {v2 v3 v4 : Option Value} (hS : rS M tx n q) (hf : M.1 0 5 = 0) (hR : dRep M D) (hD : dOk D) (hF : clI M0 M) (hok : ∀ (M' : fmM) (D' : dD) (q' : Nat), spRule tx D 2 q = .inr (D', q') → clOk M0 M' tx n q' D' → Q (.inl none) M') (hbad : ∀ (M' : fmM) (k a : Nat), spRule tx D 2 q = .inl (k, a) → clBad M0 M' tx n k a → Q (.inl none) M') : pvEv Tm 5 qX11_clause 93 [some (.ref 0), some (.int 2), v2, v3, v4] [] M Q := by
  refine pv_iloadn (pc := 93) (n := 1) 1 rfl rfl (fm_dec dtX11_clause 50 rfl) ?_
  refine pv_table (pc := 94) 345 (by decide) rfl (fm_dec dtX11_clause 51 rfl) ?_
  refine pv_aloadn (pc := 345) (n := 0) 0 rfl rfl (fm_dec dtX11_clause 180 rfl) ?_
  refine pv_iloadn (pc := 346) (n := 1) 1 rfl rfl (fm_dec dtX11_clause 181 rfl) ?_
  refine pv_iconst (pc := 347) (v := 2) (by decide) (fm_dec dtX11_clause 182 rfl) ?_
  refine pv_icmp_eq (pc := 348) 356 (by decide) (fm_dec dtX11_clause 183 rfl) (fun _ => ?_) (fun hc348 => by exfalso; revert hc348; decide)
  refine pv_iconst (pc := 356) (v := 1) (by decide) (fm_dec dtX11_clause 187 rfl) ?_
  refine pv_goto (pc := 357) 361 (by decide) (fm_dec dtX11_clause 188 rfl) ?_
  refine pv_iloadn (pc := 361) (n := 1) 1 rfl rfl (fm_dec dtX11_clause 190 rfl) ?_
  refine pv_iconst (pc := 362) (v := 2) (by decide) (fm_dec dtX11_clause 191 rfl) ?_
  refine pv_icmp_ne (pc := 363) 371 (by decide) (fm_dec dtX11_clause 192 rfl) (fun hc363 => by exfalso; revert hc363; decide) (fun _ => ?_)
  refine pv_bipush (pc := 366) (v := 12) (by decide) (fm_dec dtX11_clause 193 rfl) ?_
  refine pv_goto (pc := 368) 382 (by decide) (fm_dec dtX11_clause 194 rfl) ?_
  refine pv_invV2 (k := 0) (d' := 2) (pc := 382) pcv_X11_163 (by decide) rfl (Nat.le_of_ble_eq_true rfl) (by decide) (fm_dec dtX11_clause 201 rfl) ?_
  refine r_num (tx := tx) (n := n) (p := q) (dLo 2) (dHi 2) ⟨by decide, by decide, by decide⟩ (by (repeat with_reducible refine rS.row ?_ ⟨by omega, by omega⟩); exact (⟨hS, hf, rdFr.refl M⟩ : rdOk M M tx n q).1) (by (repeat with_reducible refine f0.row ?_ (by omega)); exact (⟨hS, hf, rdFr.refl M⟩ : rdOk M M tx n q).2.1) (fun M382 v382 q382 w382 e382 hw382 k382 => ?_) (fun Mb kb ab eb hB => ?_)  
  · refine pv_then1 ?_
    refine pv_istoren (pc := 385) (n := 2) 2 rfl (by decide) rfl (fm_dec dtX11_clause 202 rfl) ?_
    dsimp only [List.set_cons_zero, List.set_cons_succ]
    refine pv_aloadn (pc := 386) (n := 0) 0 rfl rfl (fm_dec dtX11_clause 203 rfl) ?_
    refine pv_getI (k := 0) (j := 5) (ci := 11) (pc := 387) pfl_X11_117 (by decide) rfl (by decide) (fm_dec dtX11_clause 204 rfl) ?_
    refine pv_if_ne (pc := 390) 403 (by decide) (fm_dec dtX11_clause 205 rfl) (fun hc390 => by exfalso; exact hc390 (by (repeat with_reducible refine f0.row ?_ (by omega)); exact k382.2.1)) (fun _ => ?_)
    refine pv_aloadn (pc := 393) (n := 0) 0 rfl rfl (fm_dec dtX11_clause 206 rfl) ?_
    refine pv_getR (k := 0) (j := 11) (ci := 11) (pc := 394) 3 rfl (by decide) pfl_X11_20 (by decide) rfl (by decide) (fm_dec dtX11_clause 207 rfl) ?_
    refine pv_iloadn (pc := 397) (n := 1) 1 rfl rfl (fm_dec dtX11_clause 208 rfl) ?_
    refine pv_iloadn (pc := 398) (n := 2) 2 rfl rfl (fm_dec dtX11_clause 209 rfl) ?_
    refine pv_iast (k := 3) (n := 6) (pc := 399) (by decide) rfl rfl (fm_inl (by decide)) (fm_dec dtX11_clause 210 rfl) ?_
    refine pv_goto (pc := 400) 403 (by decide) (fm_dec dtX11_clause 211 rfl) ?_
    refine pv_iloadn (pc := 403) (n := 1) 1 rfl rfl (fm_dec dtX11_clause 212 rfl) ?_
    refine pv_iconst (pc := 404) (v := 2) (by decide) (fm_dec dtX11_clause 213 rfl) ?_
    refine pv_icmp_ge (pc := 405) 429 (by decide) (fm_dec dtX11_clause 214 rfl) (fun _ => ?_) (fun hc405 => by exfalso; revert hc405; decide)
    refine pv_aloadn (pc := 429) (n := 0) 0 rfl rfl (fm_dec dtX11_clause 228 rfl) ?_
    refine pv_bipush (pc := 430) (v := 59) (by decide) (fm_dec dtX11_clause 229 rfl) ?_
    refine pv_invV1 (k := 0) (d' := 2) (pc := 432) pcv_X11_173 (by decide) rfl (Nat.le_of_ble_eq_true rfl) (by decide) (fm_dec dtX11_clause 230 rfl) ?_
    refine r_sign (tx := tx) (n := n) (p := q382) 59 ⟨by decide, by decide⟩ (by (repeat with_reducible refine rS.row ?_ ⟨by omega, by omega⟩); exact k382.1) (by (repeat with_reducible refine f0.row ?_ (by omega)); exact k382.2.1) (fun M432 q432 e432 k432 => ?_) (fun Mb kb ab eb hB => ?_)  
    · refine pv_then0 ?_
      exact pv_return (pc := 435) rfl (fm_dec dtX11_clause 231 rfl) (hok _ _ _ (by simp only [spRule, spBind, e382, e432]) ⟨k432.1, k432.2.1, rep_rule (k := 2) (hR.rd k382.2.2) ⟨by decide, by decide⟩ k432.2.2 hw382, (((hF.rd k382.2.2).row (Or.inl rfl)).rd k432.2.2).2, (((hF.rd k382.2.2).row (Or.inl rfl)).rd k432.2.2).1⟩)
    · refine pv_then0 ?_
      have hB9 := clBad.of ((hF.rd k382.2.2).row (Or.inl rfl)).1 hB
      exact pv_return (pc := 435) rfl (fm_dec dtX11_clause 231 rfl) (hbad _ kb ab (by simp only [spRule, spBind, e382, eb]) (by (repeat with_reducible refine clBad.row (by omega) ?_); exact hB9))
  · refine pv_then1 ?_
    have hB9 := clBad.of (hF).1 hB
    refine pv_istoren (pc := 385) (n := 2) 2 rfl (by decide) rfl (fm_dec dtX11_clause 202 rfl) ?_
    dsimp only [List.set_cons_zero, List.set_cons_succ]
    refine pv_aloadn (pc := 386) (n := 0) 0 rfl rfl (fm_dec dtX11_clause 203 rfl) ?_
    refine pv_getI (k := 0) (j := 5) (ci := 11) (pc := 387) pfl_X11_117 (by decide) rfl (by decide) (fm_dec dtX11_clause 204 rfl) ?_
    refine pv_if_ne (pc := 390) 403 (by decide) (fm_dec dtX11_clause 205 rfl) (fun _ => ?_) (fun hc390 => by exfalso; exact (clBad.nz (M := M0) (tx := tx) (n := n) (k := kb) (a := ab) (by (repeat with_reducible refine clBad.row (by omega) ?_); exact hB9)) hc390)
    refine pv_iloadn (pc := 403) (n := 1) 1 rfl rfl (fm_dec dtX11_clause 212 rfl) ?_
    refine pv_iconst (pc := 404) (v := 2) (by decide) (fm_dec dtX11_clause 213 rfl) ?_
    refine pv_icmp_ge (pc := 405) 429 (by decide) (fm_dec dtX11_clause 214 rfl) (fun _ => ?_) (fun hc405 => by exfalso; revert hc405; decide)
    refine pv_aloadn (pc := 429) (n := 0) 0 rfl rfl (fm_dec dtX11_clause 228 rfl) ?_
    refine pv_bipush (pc := 430) (v := 59) (by decide) (fm_dec dtX11_clause 229 rfl) ?_
    refine pv_invV1 (k := 0) (d' := 2) (pc := 432) pcv_X11_173 (by decide) rfl (Nat.le_of_ble_eq_true rfl) (by decide) (fm_dec dtX11_clause 230 rfl) ?_
    refine c_sign1 (clBad.nz (M := M0) (tx := tx) (n := n) (k := kb) (a := ab) (by (repeat with_reducible refine clBad.row (by omega) ?_); exact hB9)) ?_
    refine pv_then0 ?_
    exact pv_return (pc := 435) rfl (fm_dec dtX11_clause 231 rfl) (hbad _ kb ab (by simp only [spRule, spBind, eb]) (by (repeat with_reducible refine clBad.row (by omega) ?_); exact hB9))
set_option maxRecDepth 20000 in
theorem cl_3 {Q : fmR → fmM → Prop} {M0 M : fmM} {tx : tX} {n q : Nat} {D : dD} {v2 v3 v4 : Option Value} (hS : rS M tx n q) (hf : M.1 0 5 = 0) (hR : dRep M D) (hD : dOk D) (hF : clI M0 M) (hok : ∀ (M' : fmM) (D' : dD) (q' : Nat), spRule tx D 3 q = .inr (D', q') → clOk M0 M' tx n q' D' → Q (.inl none) M') (hbad : ∀ (M' : fmM) (k a : Nat), spRule tx D 3 q = .inl (k, a) → clBad M0 M' tx n k a → Q (.inl none) M') : pvEv Tm 5 qX11_clause 93 [some (.ref 0), some (.int 3), v2, v3, v4] [] M Q := by
  refine pv_iloadn (pc := 93) (n := 1) 1 rfl rfl (fm_dec dtX11_clause 50 rfl) ?_
  refine pv_table (pc := 94) 345 (by decide) rfl (fm_dec dtX11_clause 51 rfl) ?_
  refine pv_aloadn (pc := 345) (n := 0) 0 rfl rfl (fm_dec dtX11_clause 180 rfl) ?_
  refine pv_iloadn (pc := 346) (n := 1) 1 rfl rfl (fm_dec dtX11_clause 181 rfl) ?_
  refine pv_iconst (pc := 347) (v := 2) (by decide) (fm_dec dtX11_clause 182 rfl) ?_
  refine pv_icmp_eq (pc := 348) 356 (by decide) (fm_dec dtX11_clause 183 rfl) (fun hc348 => by exfalso; revert hc348; decide) (fun _ => ?_)
  refine pv_iloadn (pc := 351) (n := 1) 1 rfl rfl (fm_dec dtX11_clause 184 rfl) ?_
  refine pv_iconst (pc := 352) (v := 5) (by decide) (fm_dec dtX11_clause 185 rfl) ?_
  refine pv_icmp_ne (pc := 353) 360 (by decide) (fm_dec dtX11_clause 186 rfl) (fun _ => ?_) (fun hc353 => by exfalso; revert hc353; decide)
  refine pv_iconst (pc := 360) (v := 0) (by decide) (fm_dec dtX11_clause 189 rfl) ?_
  refine pv_iloadn (pc := 361) (n := 1) 1 rfl rfl (fm_dec dtX11_clause 190 rfl) ?_
  refine pv_iconst (pc := 362) (v := 2) (by decide) (fm_dec dtX11_clause 191 rfl) ?_
  refine pv_icmp_ne (pc := 363) 371 (by decide) (fm_dec dtX11_clause 192 rfl) (fun _ => ?_) (fun hc363 => by exfalso; revert hc363; decide)
  refine pv_iloadn (pc := 371) (n := 1) 1 rfl rfl (fm_dec dtX11_clause 195 rfl) ?_
  refine pv_iconst (pc := 372) (v := 5) (by decide) (fm_dec dtX11_clause 196 rfl) ?_
  refine pv_icmp_ne (pc := 373) 380 (by decide) (fm_dec dtX11_clause 197 rfl) (fun _ => ?_) (fun hc373 => by exfalso; revert hc373; decide)
  refine pv_bipush (pc := 380) (v := 9) (by decide) (fm_dec dtX11_clause 200 rfl) ?_
  refine pv_invV2 (k := 0) (d' := 2) (pc := 382) pcv_X11_163 (by decide) rfl (Nat.le_of_ble_eq_true rfl) (by decide) (fm_dec dtX11_clause 201 rfl) ?_
  refine r_num (tx := tx) (n := n) (p := q) (dLo 3) (dHi 3) ⟨by decide, by decide, by decide⟩ (by (repeat with_reducible refine rS.row ?_ ⟨by omega, by omega⟩); exact (⟨hS, hf, rdFr.refl M⟩ : rdOk M M tx n q).1) (by (repeat with_reducible refine f0.row ?_ (by omega)); exact (⟨hS, hf, rdFr.refl M⟩ : rdOk M M tx n q).2.1) (fun M382 v382 q382 w382 e382 hw382 k382 => ?_) (fun Mb kb ab eb hB => ?_)  
  · refine pv_then1 ?_
    refine pv_istoren (pc := 385) (n := 2) 2 rfl (by decide) rfl (fm_dec dtX11_clause 202 rfl) ?_
    dsimp only [List.set_cons_zero, List.set_cons_succ]
    refine pv_aloadn (pc := 386) (n := 0) 0 rfl rfl (fm_dec dtX11_clause 203 rfl) ?_
    refine pv_getI (k := 0) (j := 5) (ci := 11) (pc := 387) pfl_X11_117 (by decide) rfl (by decide) (fm_dec dtX11_clause 204 rfl) ?_
    refine pv_if_ne (pc := 390) 403 (by decide) (fm_dec dtX11_clause 205 rfl) (fun hc390 => by exfalso; exact hc390 (by (repeat with_reducible refine f0.row ?_ (by omega)); exact k382.2.1)) (fun _ => ?_)
    refine pv_aloadn (pc := 393) (n := 0) 0 rfl rfl (fm_dec dtX11_clause 206 rfl) ?_
    refine pv_getR (k := 0) (j := 11) (ci := 11) (pc := 394) 3 rfl (by decide) pfl_X11_20 (by decide) rfl (by decide) (fm_dec dtX11_clause 207 rfl) ?_
    refine pv_iloadn (pc := 397) (n := 1) 1 rfl rfl (fm_dec dtX11_clause 208 rfl) ?_
    refine pv_iloadn (pc := 398) (n := 2) 2 rfl rfl (fm_dec dtX11_clause 209 rfl) ?_
    refine pv_iast (k := 3) (n := 6) (pc := 399) (by decide) rfl rfl (fm_inl (by decide)) (fm_dec dtX11_clause 210 rfl) ?_
    refine pv_goto (pc := 400) 403 (by decide) (fm_dec dtX11_clause 211 rfl) ?_
    refine pv_iloadn (pc := 403) (n := 1) 1 rfl rfl (fm_dec dtX11_clause 212 rfl) ?_
    refine pv_iconst (pc := 404) (v := 2) (by decide) (fm_dec dtX11_clause 213 rfl) ?_
    refine pv_icmp_ge (pc := 405) 429 (by decide) (fm_dec dtX11_clause 214 rfl) (fun _ => ?_) (fun hc405 => by exfalso; revert hc405; decide)
    refine pv_aloadn (pc := 429) (n := 0) 0 rfl rfl (fm_dec dtX11_clause 228 rfl) ?_
    refine pv_bipush (pc := 430) (v := 59) (by decide) (fm_dec dtX11_clause 229 rfl) ?_
    refine pv_invV1 (k := 0) (d' := 2) (pc := 432) pcv_X11_173 (by decide) rfl (Nat.le_of_ble_eq_true rfl) (by decide) (fm_dec dtX11_clause 230 rfl) ?_
    refine r_sign (tx := tx) (n := n) (p := q382) 59 ⟨by decide, by decide⟩ (by (repeat with_reducible refine rS.row ?_ ⟨by omega, by omega⟩); exact k382.1) (by (repeat with_reducible refine f0.row ?_ (by omega)); exact k382.2.1) (fun M432 q432 e432 k432 => ?_) (fun Mb kb ab eb hB => ?_)  
    · refine pv_then0 ?_
      exact pv_return (pc := 435) rfl (fm_dec dtX11_clause 231 rfl) (hok _ _ _ (by simp only [spRule, spBind, e382, e432]) ⟨k432.1, k432.2.1, rep_rule (k := 3) (hR.rd k382.2.2) ⟨by decide, by decide⟩ k432.2.2 hw382, (((hF.rd k382.2.2).row (Or.inl rfl)).rd k432.2.2).2, (((hF.rd k382.2.2).row (Or.inl rfl)).rd k432.2.2).1⟩)
    · refine pv_then0 ?_
      have hB9 := clBad.of ((hF.rd k382.2.2).row (Or.inl rfl)).1 hB
      exact pv_return (pc := 435) rfl (fm_dec dtX11_clause 231 rfl) (hbad _ kb ab (by simp only [spRule, spBind, e382, eb]) (by (repeat with_reducible refine clBad.row (by omega) ?_); exact hB9))
  · refine pv_then1 ?_
    have hB9 := clBad.of (hF).1 hB
    refine pv_istoren (pc := 385) (n := 2) 2 rfl (by decide) rfl (fm_dec dtX11_clause 202 rfl) ?_
    dsimp only [List.set_cons_zero, List.set_cons_succ]
    refine pv_aloadn (pc := 386) (n := 0) 0 rfl rfl (fm_dec dtX11_clause 203 rfl) ?_
    refine pv_getI (k := 0) (j := 5) (ci := 11) (pc := 387) pfl_X11_117 (by decide) rfl (by decide) (fm_dec dtX11_clause 204 rfl) ?_
    refine pv_if_ne (pc := 390) 403 (by decide) (fm_dec dtX11_clause 205 rfl) (fun _ => ?_) (fun hc390 => by exfalso; exact (clBad.nz (M := M0) (tx := tx) (n := n) (k := kb) (a := ab) (by (repeat with_reducible refine clBad.row (by omega) ?_); exact hB9)) hc390)
    refine pv_iloadn (pc := 403) (n := 1) 1 rfl rfl (fm_dec dtX11_clause 212 rfl) ?_
    refine pv_iconst (pc := 404) (v := 2) (by decide) (fm_dec dtX11_clause 213 rfl) ?_
    refine pv_icmp_ge (pc := 405) 429 (by decide) (fm_dec dtX11_clause 214 rfl) (fun _ => ?_) (fun hc405 => by exfalso; revert hc405; decide)
    refine pv_aloadn (pc := 429) (n := 0) 0 rfl rfl (fm_dec dtX11_clause 228 rfl) ?_
    refine pv_bipush (pc := 430) (v := 59) (by decide) (fm_dec dtX11_clause 229 rfl) ?_
    refine pv_invV1 (k := 0) (d' := 2) (pc := 432) pcv_X11_173 (by decide) rfl (Nat.le_of_ble_eq_true rfl) (by decide) (fm_dec dtX11_clause 230 rfl) ?_
    refine c_sign1 (clBad.nz (M := M0) (tx := tx) (n := n) (k := kb) (a := ab) (by (repeat with_reducible refine clBad.row (by omega) ?_); exact hB9)) ?_
    refine pv_then0 ?_
    exact pv_return (pc := 435) rfl (fm_dec dtX11_clause 231 rfl) (hbad _ kb ab (by simp only [spRule, spBind, eb]) (by (repeat with_reducible refine clBad.row (by omega) ?_); exact hB9))
set_option maxRecDepth 20000 in
theorem cl_4 {Q : fmR → fmM → Prop} {M0 M : fmM} {tx : tX} {n q : Nat} {D : dD} {v2 v3 v4 : Option Value} (hS : rS M tx n q) (hf : M.1 0 5 = 0) (hR : dRep M D) (hD : dOk D) (hF : clI M0 M) (hok : ∀ (M' : fmM) (D' : dD) (q' : Nat), spRule tx D 4 q = .inr (D', q') → clOk M0 M' tx n q' D' → Q (.inl none) M') (hbad : ∀ (M' : fmM) (k a : Nat), spRule tx D 4 q = .inl (k, a) → clBad M0 M' tx n k a → Q (.inl none) M') : pvEv Tm 5 qX11_clause 93 [some (.ref 0), some (.int 4), v2, v3, v4] [] M Q := by
  refine pv_iloadn (pc := 93) (n := 1) 1 rfl rfl (fm_dec dtX11_clause 50 rfl) ?_
  refine pv_table (pc := 94) 345 (by decide) rfl (fm_dec dtX11_clause 51 rfl) ?_
  refine pv_aloadn (pc := 345) (n := 0) 0 rfl rfl (fm_dec dtX11_clause 180 rfl) ?_
  refine pv_iloadn (pc := 346) (n := 1) 1 rfl rfl (fm_dec dtX11_clause 181 rfl) ?_
  refine pv_iconst (pc := 347) (v := 2) (by decide) (fm_dec dtX11_clause 182 rfl) ?_
  refine pv_icmp_eq (pc := 348) 356 (by decide) (fm_dec dtX11_clause 183 rfl) (fun hc348 => by exfalso; revert hc348; decide) (fun _ => ?_)
  refine pv_iloadn (pc := 351) (n := 1) 1 rfl rfl (fm_dec dtX11_clause 184 rfl) ?_
  refine pv_iconst (pc := 352) (v := 5) (by decide) (fm_dec dtX11_clause 185 rfl) ?_
  refine pv_icmp_ne (pc := 353) 360 (by decide) (fm_dec dtX11_clause 186 rfl) (fun _ => ?_) (fun hc353 => by exfalso; revert hc353; decide)
  refine pv_iconst (pc := 360) (v := 0) (by decide) (fm_dec dtX11_clause 189 rfl) ?_
  refine pv_iloadn (pc := 361) (n := 1) 1 rfl rfl (fm_dec dtX11_clause 190 rfl) ?_
  refine pv_iconst (pc := 362) (v := 2) (by decide) (fm_dec dtX11_clause 191 rfl) ?_
  refine pv_icmp_ne (pc := 363) 371 (by decide) (fm_dec dtX11_clause 192 rfl) (fun _ => ?_) (fun hc363 => by exfalso; revert hc363; decide)
  refine pv_iloadn (pc := 371) (n := 1) 1 rfl rfl (fm_dec dtX11_clause 195 rfl) ?_
  refine pv_iconst (pc := 372) (v := 5) (by decide) (fm_dec dtX11_clause 196 rfl) ?_
  refine pv_icmp_ne (pc := 373) 380 (by decide) (fm_dec dtX11_clause 197 rfl) (fun _ => ?_) (fun hc373 => by exfalso; revert hc373; decide)
  refine pv_bipush (pc := 380) (v := 9) (by decide) (fm_dec dtX11_clause 200 rfl) ?_
  refine pv_invV2 (k := 0) (d' := 2) (pc := 382) pcv_X11_163 (by decide) rfl (Nat.le_of_ble_eq_true rfl) (by decide) (fm_dec dtX11_clause 201 rfl) ?_
  refine r_num (tx := tx) (n := n) (p := q) (dLo 4) (dHi 4) ⟨by decide, by decide, by decide⟩ (by (repeat with_reducible refine rS.row ?_ ⟨by omega, by omega⟩); exact (⟨hS, hf, rdFr.refl M⟩ : rdOk M M tx n q).1) (by (repeat with_reducible refine f0.row ?_ (by omega)); exact (⟨hS, hf, rdFr.refl M⟩ : rdOk M M tx n q).2.1) (fun M382 v382 q382 w382 e382 hw382 k382 => ?_) (fun Mb kb ab eb hB => ?_)  
  · refine pv_then1 ?_
    refine pv_istoren (pc := 385) (n := 2) 2 rfl (by decide) rfl (fm_dec dtX11_clause 202 rfl) ?_
    dsimp only [List.set_cons_zero, List.set_cons_succ]
    refine pv_aloadn (pc := 386) (n := 0) 0 rfl rfl (fm_dec dtX11_clause 203 rfl) ?_
    refine pv_getI (k := 0) (j := 5) (ci := 11) (pc := 387) pfl_X11_117 (by decide) rfl (by decide) (fm_dec dtX11_clause 204 rfl) ?_
    refine pv_if_ne (pc := 390) 403 (by decide) (fm_dec dtX11_clause 205 rfl) (fun hc390 => by exfalso; exact hc390 (by (repeat with_reducible refine f0.row ?_ (by omega)); exact k382.2.1)) (fun _ => ?_)
    refine pv_aloadn (pc := 393) (n := 0) 0 rfl rfl (fm_dec dtX11_clause 206 rfl) ?_
    refine pv_getR (k := 0) (j := 11) (ci := 11) (pc := 394) 3 rfl (by decide) pfl_X11_20 (by decide) rfl (by decide) (fm_dec dtX11_clause 207 rfl) ?_
    refine pv_iloadn (pc := 397) (n := 1) 1 rfl rfl (fm_dec dtX11_clause 208 rfl) ?_
    refine pv_iloadn (pc := 398) (n := 2) 2 rfl rfl (fm_dec dtX11_clause 209 rfl) ?_
    refine pv_iast (k := 3) (n := 6) (pc := 399) (by decide) rfl rfl (fm_inl (by decide)) (fm_dec dtX11_clause 210 rfl) ?_
    refine pv_goto (pc := 400) 403 (by decide) (fm_dec dtX11_clause 211 rfl) ?_
    refine pv_iloadn (pc := 403) (n := 1) 1 rfl rfl (fm_dec dtX11_clause 212 rfl) ?_
    refine pv_iconst (pc := 404) (v := 2) (by decide) (fm_dec dtX11_clause 213 rfl) ?_
    refine pv_icmp_ge (pc := 405) 429 (by decide) (fm_dec dtX11_clause 214 rfl) (fun _ => ?_) (fun hc405 => by exfalso; revert hc405; decide)
    refine pv_aloadn (pc := 429) (n := 0) 0 rfl rfl (fm_dec dtX11_clause 228 rfl) ?_
    refine pv_bipush (pc := 430) (v := 59) (by decide) (fm_dec dtX11_clause 229 rfl) ?_
    refine pv_invV1 (k := 0) (d' := 2) (pc := 432) pcv_X11_173 (by decide) rfl (Nat.le_of_ble_eq_true rfl) (by decide) (fm_dec dtX11_clause 230 rfl) ?_
    refine r_sign (tx := tx) (n := n) (p := q382) 59 ⟨by decide, by decide⟩ (by (repeat with_reducible refine rS.row ?_ ⟨by omega, by omega⟩); exact k382.1) (by (repeat with_reducible refine f0.row ?_ (by omega)); exact k382.2.1) (fun M432 q432 e432 k432 => ?_) (fun Mb kb ab eb hB => ?_)  
    · refine pv_then0 ?_
      exact pv_return (pc := 435) rfl (fm_dec dtX11_clause 231 rfl) (hok _ _ _ (by simp only [spRule, spBind, e382, e432]) ⟨k432.1, k432.2.1, rep_rule (k := 4) (hR.rd k382.2.2) ⟨by decide, by decide⟩ k432.2.2 hw382, (((hF.rd k382.2.2).row (Or.inl rfl)).rd k432.2.2).2, (((hF.rd k382.2.2).row (Or.inl rfl)).rd k432.2.2).1⟩)
    · refine pv_then0 ?_
      have hB9 := clBad.of ((hF.rd k382.2.2).row (Or.inl rfl)).1 hB
      exact pv_return (pc := 435) rfl (fm_dec dtX11_clause 231 rfl) (hbad _ kb ab (by simp only [spRule, spBind, e382, eb]) (by (repeat with_reducible refine clBad.row (by omega) ?_); exact hB9))
  · refine pv_then1 ?_
    have hB9 := clBad.of (hF).1 hB
    refine pv_istoren (pc := 385) (n := 2) 2 rfl (by decide) rfl (fm_dec dtX11_clause 202 rfl) ?_
    dsimp only [List.set_cons_zero, List.set_cons_succ]
    refine pv_aloadn (pc := 386) (n := 0) 0 rfl rfl (fm_dec dtX11_clause 203 rfl) ?_
    refine pv_getI (k := 0) (j := 5) (ci := 11) (pc := 387) pfl_X11_117 (by decide) rfl (by decide) (fm_dec dtX11_clause 204 rfl) ?_
    refine pv_if_ne (pc := 390) 403 (by decide) (fm_dec dtX11_clause 205 rfl) (fun _ => ?_) (fun hc390 => by exfalso; exact (clBad.nz (M := M0) (tx := tx) (n := n) (k := kb) (a := ab) (by (repeat with_reducible refine clBad.row (by omega) ?_); exact hB9)) hc390)
    refine pv_iloadn (pc := 403) (n := 1) 1 rfl rfl (fm_dec dtX11_clause 212 rfl) ?_
    refine pv_iconst (pc := 404) (v := 2) (by decide) (fm_dec dtX11_clause 213 rfl) ?_
    refine pv_icmp_ge (pc := 405) 429 (by decide) (fm_dec dtX11_clause 214 rfl) (fun _ => ?_) (fun hc405 => by exfalso; revert hc405; decide)
    refine pv_aloadn (pc := 429) (n := 0) 0 rfl rfl (fm_dec dtX11_clause 228 rfl) ?_
    refine pv_bipush (pc := 430) (v := 59) (by decide) (fm_dec dtX11_clause 229 rfl) ?_
    refine pv_invV1 (k := 0) (d' := 2) (pc := 432) pcv_X11_173 (by decide) rfl (Nat.le_of_ble_eq_true rfl) (by decide) (fm_dec dtX11_clause 230 rfl) ?_
    refine c_sign1 (clBad.nz (M := M0) (tx := tx) (n := n) (k := kb) (a := ab) (by (repeat with_reducible refine clBad.row (by omega) ?_); exact hB9)) ?_
    refine pv_then0 ?_
    exact pv_return (pc := 435) rfl (fm_dec dtX11_clause 231 rfl) (hbad _ kb ab (by simp only [spRule, spBind, eb]) (by (repeat with_reducible refine clBad.row (by omega) ?_); exact hB9))
set_option maxRecDepth 20000 in
theorem cl_5 {Q : fmR → fmM → Prop} {M0 M : fmM} {tx : tX} {n q : Nat} {D : dD} {v2 v3 v4 : Option Value} (hS : rS M tx n q) (hf : M.1 0 5 = 0) (hR : dRep M D) (hD : dOk D) (hF : clI M0 M) (hok : ∀ (M' : fmM) (D' : dD) (q' : Nat), spRule tx D 5 q = .inr (D', q') → clOk M0 M' tx n q' D' → Q (.inl none) M') (hbad : ∀ (M' : fmM) (k a : Nat), spRule tx D 5 q = .inl (k, a) → clBad M0 M' tx n k a → Q (.inl none) M') : pvEv Tm 5 qX11_clause 93 [some (.ref 0), some (.int 5), v2, v3, v4] [] M Q := by
  refine pv_iloadn (pc := 93) (n := 1) 1 rfl rfl (fm_dec dtX11_clause 50 rfl) ?_
  refine pv_table (pc := 94) 345 (by decide) rfl (fm_dec dtX11_clause 51 rfl) ?_
  refine pv_aloadn (pc := 345) (n := 0) 0 rfl rfl (fm_dec dtX11_clause 180 rfl) ?_
  refine pv_iloadn (pc := 346) (n := 1) 1 rfl rfl (fm_dec dtX11_clause 181 rfl) ?_
  refine pv_iconst (pc := 347) (v := 2) (by decide) (fm_dec dtX11_clause 182 rfl) ?_
  refine pv_icmp_eq (pc := 348) 356 (by decide) (fm_dec dtX11_clause 183 rfl) (fun hc348 => by exfalso; revert hc348; decide) (fun _ => ?_)
  refine pv_iloadn (pc := 351) (n := 1) 1 rfl rfl (fm_dec dtX11_clause 184 rfl) ?_
  refine pv_iconst (pc := 352) (v := 5) (by decide) (fm_dec dtX11_clause 185 rfl) ?_
  refine pv_icmp_ne (pc := 353) 360 (by decide) (fm_dec dtX11_clause 186 rfl) (fun hc353 => by exfalso; revert hc353; decide) (fun _ => ?_)
  refine pv_iconst (pc := 356) (v := 1) (by decide) (fm_dec dtX11_clause 187 rfl) ?_
  refine pv_goto (pc := 357) 361 (by decide) (fm_dec dtX11_clause 188 rfl) ?_
  refine pv_iloadn (pc := 361) (n := 1) 1 rfl rfl (fm_dec dtX11_clause 190 rfl) ?_
  refine pv_iconst (pc := 362) (v := 2) (by decide) (fm_dec dtX11_clause 191 rfl) ?_
  refine pv_icmp_ne (pc := 363) 371 (by decide) (fm_dec dtX11_clause 192 rfl) (fun _ => ?_) (fun hc363 => by exfalso; revert hc363; decide)
  refine pv_iloadn (pc := 371) (n := 1) 1 rfl rfl (fm_dec dtX11_clause 195 rfl) ?_
  refine pv_iconst (pc := 372) (v := 5) (by decide) (fm_dec dtX11_clause 196 rfl) ?_
  refine pv_icmp_ne (pc := 373) 380 (by decide) (fm_dec dtX11_clause 197 rfl) (fun hc373 => by exfalso; revert hc373; decide) (fun _ => ?_)
  refine pv_iconst (pc := 376) (v := 4) (by decide) (fm_dec dtX11_clause 198 rfl) ?_
  refine pv_goto (pc := 377) 382 (by decide) (fm_dec dtX11_clause 199 rfl) ?_
  refine pv_invV2 (k := 0) (d' := 2) (pc := 382) pcv_X11_163 (by decide) rfl (Nat.le_of_ble_eq_true rfl) (by decide) (fm_dec dtX11_clause 201 rfl) ?_
  refine r_num (tx := tx) (n := n) (p := q) (dLo 5) (dHi 5) ⟨by decide, by decide, by decide⟩ (by (repeat with_reducible refine rS.row ?_ ⟨by omega, by omega⟩); exact (⟨hS, hf, rdFr.refl M⟩ : rdOk M M tx n q).1) (by (repeat with_reducible refine f0.row ?_ (by omega)); exact (⟨hS, hf, rdFr.refl M⟩ : rdOk M M tx n q).2.1) (fun M382 v382 q382 w382 e382 hw382 k382 => ?_) (fun Mb kb ab eb hB => ?_)  
  · refine pv_then1 ?_
    refine pv_istoren (pc := 385) (n := 2) 2 rfl (by decide) rfl (fm_dec dtX11_clause 202 rfl) ?_
    dsimp only [List.set_cons_zero, List.set_cons_succ]
    refine pv_aloadn (pc := 386) (n := 0) 0 rfl rfl (fm_dec dtX11_clause 203 rfl) ?_
    refine pv_getI (k := 0) (j := 5) (ci := 11) (pc := 387) pfl_X11_117 (by decide) rfl (by decide) (fm_dec dtX11_clause 204 rfl) ?_
    refine pv_if_ne (pc := 390) 403 (by decide) (fm_dec dtX11_clause 205 rfl) (fun hc390 => by exfalso; exact hc390 (by (repeat with_reducible refine f0.row ?_ (by omega)); exact k382.2.1)) (fun _ => ?_)
    refine pv_aloadn (pc := 393) (n := 0) 0 rfl rfl (fm_dec dtX11_clause 206 rfl) ?_
    refine pv_getR (k := 0) (j := 11) (ci := 11) (pc := 394) 3 rfl (by decide) pfl_X11_20 (by decide) rfl (by decide) (fm_dec dtX11_clause 207 rfl) ?_
    refine pv_iloadn (pc := 397) (n := 1) 1 rfl rfl (fm_dec dtX11_clause 208 rfl) ?_
    refine pv_iloadn (pc := 398) (n := 2) 2 rfl rfl (fm_dec dtX11_clause 209 rfl) ?_
    refine pv_iast (k := 3) (n := 6) (pc := 399) (by decide) rfl rfl (fm_inl (by decide)) (fm_dec dtX11_clause 210 rfl) ?_
    refine pv_goto (pc := 400) 403 (by decide) (fm_dec dtX11_clause 211 rfl) ?_
    refine pv_iloadn (pc := 403) (n := 1) 1 rfl rfl (fm_dec dtX11_clause 212 rfl) ?_
    refine pv_iconst (pc := 404) (v := 2) (by decide) (fm_dec dtX11_clause 213 rfl) ?_
    refine pv_icmp_ge (pc := 405) 429 (by decide) (fm_dec dtX11_clause 214 rfl) (fun _ => ?_) (fun hc405 => by exfalso; revert hc405; decide)
    refine pv_aloadn (pc := 429) (n := 0) 0 rfl rfl (fm_dec dtX11_clause 228 rfl) ?_
    refine pv_bipush (pc := 430) (v := 59) (by decide) (fm_dec dtX11_clause 229 rfl) ?_
    refine pv_invV1 (k := 0) (d' := 2) (pc := 432) pcv_X11_173 (by decide) rfl (Nat.le_of_ble_eq_true rfl) (by decide) (fm_dec dtX11_clause 230 rfl) ?_
    refine r_sign (tx := tx) (n := n) (p := q382) 59 ⟨by decide, by decide⟩ (by (repeat with_reducible refine rS.row ?_ ⟨by omega, by omega⟩); exact k382.1) (by (repeat with_reducible refine f0.row ?_ (by omega)); exact k382.2.1) (fun M432 q432 e432 k432 => ?_) (fun Mb kb ab eb hB => ?_)  
    · refine pv_then0 ?_
      exact pv_return (pc := 435) rfl (fm_dec dtX11_clause 231 rfl) (hok _ _ _ (by simp only [spRule, spBind, e382, e432]) ⟨k432.1, k432.2.1, rep_rule (k := 5) (hR.rd k382.2.2) ⟨by decide, by decide⟩ k432.2.2 hw382, (((hF.rd k382.2.2).row (Or.inl rfl)).rd k432.2.2).2, (((hF.rd k382.2.2).row (Or.inl rfl)).rd k432.2.2).1⟩)
    · refine pv_then0 ?_
      have hB9 := clBad.of ((hF.rd k382.2.2).row (Or.inl rfl)).1 hB
      exact pv_return (pc := 435) rfl (fm_dec dtX11_clause 231 rfl) (hbad _ kb ab (by simp only [spRule, spBind, e382, eb]) (by (repeat with_reducible refine clBad.row (by omega) ?_); exact hB9))
  · refine pv_then1 ?_
    have hB9 := clBad.of (hF).1 hB
    refine pv_istoren (pc := 385) (n := 2) 2 rfl (by decide) rfl (fm_dec dtX11_clause 202 rfl) ?_
    dsimp only [List.set_cons_zero, List.set_cons_succ]
    refine pv_aloadn (pc := 386) (n := 0) 0 rfl rfl (fm_dec dtX11_clause 203 rfl) ?_
    refine pv_getI (k := 0) (j := 5) (ci := 11) (pc := 387) pfl_X11_117 (by decide) rfl (by decide) (fm_dec dtX11_clause 204 rfl) ?_
    refine pv_if_ne (pc := 390) 403 (by decide) (fm_dec dtX11_clause 205 rfl) (fun _ => ?_) (fun hc390 => by exfalso; exact (clBad.nz (M := M0) (tx := tx) (n := n) (k := kb) (a := ab) (by (repeat with_reducible refine clBad.row (by omega) ?_); exact hB9)) hc390)
    refine pv_iloadn (pc := 403) (n := 1) 1 rfl rfl (fm_dec dtX11_clause 212 rfl) ?_
    refine pv_iconst (pc := 404) (v := 2) (by decide) (fm_dec dtX11_clause 213 rfl) ?_
    refine pv_icmp_ge (pc := 405) 429 (by decide) (fm_dec dtX11_clause 214 rfl) (fun _ => ?_) (fun hc405 => by exfalso; revert hc405; decide)
    refine pv_aloadn (pc := 429) (n := 0) 0 rfl rfl (fm_dec dtX11_clause 228 rfl) ?_
    refine pv_bipush (pc := 430) (v := 59) (by decide) (fm_dec dtX11_clause 229 rfl) ?_
    refine pv_invV1 (k := 0) (d' := 2) (pc := 432) pcv_X11_173 (by decide) rfl (Nat.le_of_ble_eq_true rfl) (by decide) (fm_dec dtX11_clause 230 rfl) ?_
    refine c_sign1 (clBad.nz (M := M0) (tx := tx) (n := n) (k := kb) (a := ab) (by (repeat with_reducible refine clBad.row (by omega) ?_); exact hB9)) ?_
    refine pv_then0 ?_
    exact pv_return (pc := 435) rfl (fm_dec dtX11_clause 231 rfl) (hbad _ kb ab (by simp only [spRule, spBind, eb]) (by (repeat with_reducible refine clBad.row (by omega) ?_); exact hB9))
set_option maxRecDepth 20000 in
theorem cl_6 {Q : fmR → fmM → Prop} {M0 M : fmM} {tx : tX} {n q : Nat} {D : dD} {v2 v3 v4 : Option Value} (hS : rS M tx n q) (hf : M.1 0 5 = 0) (hR : dRep M D) (hD : dOk D) (hF : clI M0 M) (hok : ∀ (M' : fmM) (D' : dD) (q' : Nat), spHas tx D q = .inr (D', q') → clOk M0 M' tx n q' D' → Q (.inl none) M') (hbad : ∀ (M' : fmM) (k a : Nat), spHas tx D q = .inl (k, a) → clBad M0 M' tx n k a → Q (.inl none) M') : pvEv Tm 5 qX11_clause 93 [some (.ref 0), some (.int 6), v2, v3, v4] [] M Q := by
  refine pv_iloadn (pc := 93) (n := 1) 1 rfl rfl (fm_dec dtX11_clause 50 rfl) ?_
  refine pv_table (pc := 94) 244 (by decide) rfl (fm_dec dtX11_clause 51 rfl) ?_
  refine pv_aloadn (pc := 244) (n := 0) 0 rfl rfl (fm_dec dtX11_clause 125 rfl) ?_
  refine pv_invV0 (k := 0) (d' := 3) (pc := 245) pcv_X11_170 (by decide) rfl (Nat.le_of_ble_eq_true rfl) (by decide) (fm_dec dtX11_clause 126 rfl) ?_
  refine c_lifeHere (l := D.1) (⟨hS, hf, rdFr.refl M⟩ : rdOk M M tx n q).1 (⟨hS, hf, rdFr.refl M⟩ : rdOk M M tx n q).2.1 hR.1 hD.1 (fun M245 v245 q245 w245 e245 hw245 k245 => ?_) (fun Mb kb ab eb hB => ?_)  
  · refine pv_then1 ?_
    have hvl : v245 < D.1 := (by have := (spNum_ok hS.2.2.2.1 hS.2.2.1 e245).2.2.2; omega)
    have hv8 : v245 < 8 := (by have := hD.1; omega)
    refine pv_istoren (pc := 248) (n := 2) 2 rfl (by decide) rfl (fm_dec dtX11_clause 127 rfl) ?_
    dsimp only [List.set_cons_zero, List.set_cons_succ]
    refine pv_aloadn (pc := 249) (n := 0) 0 rfl rfl (fm_dec dtX11_clause 128 rfl) ?_
    refine pv_iconst (pc := 250) (v := 0) (by decide) (fm_dec dtX11_clause 129 rfl) ?_
    refine pv_bipush (pc := 251) (v := 40) (by decide) (fm_dec dtX11_clause 130 rfl) ?_
    refine pv_invV2 (k := 0) (d' := 2) (pc := 253) pcv_X11_163 (by decide) rfl (Nat.le_of_ble_eq_true rfl) (by decide) (fm_dec dtX11_clause 131 rfl) ?_
    refine r_num (tx := tx) (n := n) (p := q245) 0 40 ⟨by decide, by decide, by decide⟩ (by (repeat with_reducible refine rS.row ?_ ⟨by omega, by omega⟩); exact k245.1) (by (repeat with_reducible refine f0.row ?_ (by omega)); exact k245.2.1) (fun M253 v253 q253 w253 e253 hw253 k253 => ?_) (fun Mb kb ab eb hB => ?_)  
    · refine pv_then1 ?_
      refine pv_istoren (pc := 256) (n := 3) 3 rfl (by decide) rfl (fm_dec dtX11_clause 132 rfl) ?_
      dsimp only [List.set_cons_zero, List.set_cons_succ]
      refine pv_aloadn (pc := 257) (n := 0) 0 rfl rfl (fm_dec dtX11_clause 133 rfl) ?_
      refine pv_getI (k := 0) (j := 5) (ci := 11) (pc := 258) pfl_X11_117 (by decide) rfl (by decide) (fm_dec dtX11_clause 134 rfl) ?_
      refine pv_if_ne (pc := 261) 403 (by decide) (fm_dec dtX11_clause 135 rfl) (fun hc261 => by exfalso; exact hc261 (by (repeat with_reducible refine f0.row ?_ (by omega)); exact k253.2.1)) (fun _ => ?_)
      refine pv_aloadn (pc := 264) (n := 0) 0 rfl rfl (fm_dec dtX11_clause 136 rfl) ?_
      refine pv_getR (k := 0) (j := 13) (ci := 11) (pc := 265) 16 rfl (by decide) pfl_X11_28 (by decide) rfl (by decide) (fm_dec dtX11_clause 137 rfl) ?_
      refine pv_iloadn (pc := 268) (n := 2) 2 rfl rfl (fm_dec dtX11_clause 138 rfl) ?_
      refine pv_aald (k := 16) (n := 8) (r := (27 + v245)) (pc := 269) (by decide) (Or.inr (Or.inr rfl)) rfl (rw_readLife.inb hw245 hv8) (rw_readLife.at hw245 hv8) (rw_readLife.2.2.2 _ hv8).2.1 (fm_dec dtX11_clause 139 rfl) ?_
      refine pv_iconst (pc := 270) (v := 4) (by decide) (fm_dec dtX11_clause 140 rfl) ?_
      refine pv_iloadn (pc := 271) (n := 3) 3 rfl rfl (fm_dec dtX11_clause 141 rfl) ?_
      refine pv_iast (k := (27 + v245)) (n := 6) (pc := 272) (rw_readLife.2.2.2 _ hv8).2.2.1 (rw_readLife.2.2.2 _ hv8).2.2.2.1 (rw_readLife.2.2.2 _ hv8).2.2.2.2 (fm_inl (by decide)) (fm_dec dtX11_clause 142 rfl) ?_
      refine pv_goto (pc := 273) 403 (by decide) (fm_dec dtX11_clause 143 rfl) ?_
      refine pv_iloadn (pc := 403) (n := 1) 1 rfl rfl (fm_dec dtX11_clause 212 rfl) ?_
      refine pv_iconst (pc := 404) (v := 2) (by decide) (fm_dec dtX11_clause 213 rfl) ?_
      refine pv_icmp_ge (pc := 405) 429 (by decide) (fm_dec dtX11_clause 214 rfl) (fun _ => ?_) (fun hc405 => by exfalso; revert hc405; decide)
      refine pv_aloadn (pc := 429) (n := 0) 0 rfl rfl (fm_dec dtX11_clause 228 rfl) ?_
      refine pv_bipush (pc := 430) (v := 59) (by decide) (fm_dec dtX11_clause 229 rfl) ?_
      refine pv_invV1 (k := 0) (d' := 2) (pc := 432) pcv_X11_173 (by decide) rfl (Nat.le_of_ble_eq_true rfl) (by decide) (fm_dec dtX11_clause 230 rfl) ?_
      refine r_sign (tx := tx) (n := n) (p := q253) 59 ⟨by decide, by decide⟩ (by (repeat with_reducible refine rS.row ?_ ⟨by omega, by omega⟩); exact k253.1) (by (repeat with_reducible refine f0.row ?_ (by omega)); exact k253.2.1) (fun M432 q432 e432 k432 => ?_) (fun Mb kb ab eb hB => ?_)  
      · refine pv_then0 ?_
        exact pv_return (pc := 435) rfl (fm_dec dtX11_clause 231 rfl) (hok _ _ _ (by simp only [spHas, spBind, e245, e253, e432]) ⟨k432.1, k432.2.1, rep_set (c := 4) ((hR.rd k245.2.2).rd k253.2.2) hvl hD.1 k432.2.2 hw253, ((((hF.rd k245.2.2).rd k253.2.2).row (by omega)).rd k432.2.2).2, ((((hF.rd k245.2.2).rd k253.2.2).row (by omega)).rd k432.2.2).1⟩)
      · refine pv_then0 ?_
        have hB9 := clBad.of (((hF.rd k245.2.2).rd k253.2.2).row (by omega)).1 hB
        exact pv_return (pc := 435) rfl (fm_dec dtX11_clause 231 rfl) (hbad _ kb ab (by simp only [spHas, spBind, e245, e253, eb]) (by (repeat with_reducible refine clBad.row (by omega) ?_); exact hB9))
    · refine pv_then1 ?_
      have hB9 := clBad.of (hF.rd k245.2.2).1 hB
      refine pv_istoren (pc := 256) (n := 3) 3 rfl (by decide) rfl (fm_dec dtX11_clause 132 rfl) ?_
      dsimp only [List.set_cons_zero, List.set_cons_succ]
      refine pv_aloadn (pc := 257) (n := 0) 0 rfl rfl (fm_dec dtX11_clause 133 rfl) ?_
      refine pv_getI (k := 0) (j := 5) (ci := 11) (pc := 258) pfl_X11_117 (by decide) rfl (by decide) (fm_dec dtX11_clause 134 rfl) ?_
      refine pv_if_ne (pc := 261) 403 (by decide) (fm_dec dtX11_clause 135 rfl) (fun _ => ?_) (fun hc261 => by exfalso; exact (clBad.nz (M := M0) (tx := tx) (n := n) (k := kb) (a := ab) (by (repeat with_reducible refine clBad.row (by omega) ?_); exact hB9)) hc261)
      refine pv_iloadn (pc := 403) (n := 1) 1 rfl rfl (fm_dec dtX11_clause 212 rfl) ?_
      refine pv_iconst (pc := 404) (v := 2) (by decide) (fm_dec dtX11_clause 213 rfl) ?_
      refine pv_icmp_ge (pc := 405) 429 (by decide) (fm_dec dtX11_clause 214 rfl) (fun _ => ?_) (fun hc405 => by exfalso; revert hc405; decide)
      refine pv_aloadn (pc := 429) (n := 0) 0 rfl rfl (fm_dec dtX11_clause 228 rfl) ?_
      refine pv_bipush (pc := 430) (v := 59) (by decide) (fm_dec dtX11_clause 229 rfl) ?_
      refine pv_invV1 (k := 0) (d' := 2) (pc := 432) pcv_X11_173 (by decide) rfl (Nat.le_of_ble_eq_true rfl) (by decide) (fm_dec dtX11_clause 230 rfl) ?_
      refine c_sign1 (clBad.nz (M := M0) (tx := tx) (n := n) (k := kb) (a := ab) (by (repeat with_reducible refine clBad.row (by omega) ?_); exact hB9)) ?_
      refine pv_then0 ?_
      exact pv_return (pc := 435) rfl (fm_dec dtX11_clause 231 rfl) (hbad _ kb ab (by simp only [spHas, spBind, e245, eb]) (by (repeat with_reducible refine clBad.row (by omega) ?_); exact hB9))
  · refine pv_then1 ?_
    have hB9 := clBad.of (hF).1 hB
    refine pv_istoren (pc := 248) (n := 2) 2 rfl (by decide) rfl (fm_dec dtX11_clause 127 rfl) ?_
    dsimp only [List.set_cons_zero, List.set_cons_succ]
    refine pv_aloadn (pc := 249) (n := 0) 0 rfl rfl (fm_dec dtX11_clause 128 rfl) ?_
    refine pv_iconst (pc := 250) (v := 0) (by decide) (fm_dec dtX11_clause 129 rfl) ?_
    refine pv_bipush (pc := 251) (v := 40) (by decide) (fm_dec dtX11_clause 130 rfl) ?_
    refine pv_invV2 (k := 0) (d' := 2) (pc := 253) pcv_X11_163 (by decide) rfl (Nat.le_of_ble_eq_true rfl) (by decide) (fm_dec dtX11_clause 131 rfl) ?_
    refine c_number1 (clBad.nz (M := M0) (tx := tx) (n := n) (k := kb) (a := ab) (by (repeat with_reducible refine clBad.row (by omega) ?_); exact hB9)) ?_
    refine pv_then1 ?_
    refine pv_istoren (pc := 256) (n := 3) 3 rfl (by decide) rfl (fm_dec dtX11_clause 132 rfl) ?_
    dsimp only [List.set_cons_zero, List.set_cons_succ]
    refine pv_aloadn (pc := 257) (n := 0) 0 rfl rfl (fm_dec dtX11_clause 133 rfl) ?_
    refine pv_getI (k := 0) (j := 5) (ci := 11) (pc := 258) pfl_X11_117 (by decide) rfl (by decide) (fm_dec dtX11_clause 134 rfl) ?_
    refine pv_if_ne (pc := 261) 403 (by decide) (fm_dec dtX11_clause 135 rfl) (fun _ => ?_) (fun hc261 => by exfalso; exact (clBad.nz (M := M0) (tx := tx) (n := n) (k := kb) (a := ab) (by (repeat with_reducible refine clBad.row (by omega) ?_); exact hB9)) hc261)
    refine pv_iloadn (pc := 403) (n := 1) 1 rfl rfl (fm_dec dtX11_clause 212 rfl) ?_
    refine pv_iconst (pc := 404) (v := 2) (by decide) (fm_dec dtX11_clause 213 rfl) ?_
    refine pv_icmp_ge (pc := 405) 429 (by decide) (fm_dec dtX11_clause 214 rfl) (fun _ => ?_) (fun hc405 => by exfalso; revert hc405; decide)
    refine pv_aloadn (pc := 429) (n := 0) 0 rfl rfl (fm_dec dtX11_clause 228 rfl) ?_
    refine pv_bipush (pc := 430) (v := 59) (by decide) (fm_dec dtX11_clause 229 rfl) ?_
    refine pv_invV1 (k := 0) (d' := 2) (pc := 432) pcv_X11_173 (by decide) rfl (Nat.le_of_ble_eq_true rfl) (by decide) (fm_dec dtX11_clause 230 rfl) ?_
    refine c_sign1 (clBad.nz (M := M0) (tx := tx) (n := n) (k := kb) (a := ab) (by (repeat with_reducible refine clBad.row (by omega) ?_); exact hB9)) ?_
    refine pv_then0 ?_
    exact pv_return (pc := 435) rfl (fm_dec dtX11_clause 231 rfl) (hbad _ kb ab (by simp only [spHas, spBind, eb]) (by (repeat with_reducible refine clBad.row (by omega) ?_); exact hB9))
set_option maxRecDepth 20000 in
theorem cl_7 {Q : fmR → fmM → Prop} {M0 M : fmM} {tx : tX} {n q : Nat} {D : dD} {v2 v3 v4 : Option Value} (hS : rS M tx n q) (hf : M.1 0 5 = 0) (hR : dRep M D) (hD : dOk D) (hF : clI M0 M) (hok : ∀ (M' : fmM) (D' : dD) (q' : Nat), spBy tx D q = .inr (D', q') → clOk M0 M' tx n q' D' → Q (.inl none) M') (hbad : ∀ (M' : fmM) (k a : Nat), spBy tx D q = .inl (k, a) → clBad M0 M' tx n k a → Q (.inl none) M') : pvEv Tm 5 qX11_clause 93 [some (.ref 0), some (.int 7), v2, v3, v4] [] M Q := by
  refine pv_iloadn (pc := 93) (n := 1) 1 rfl rfl (fm_dec dtX11_clause 50 rfl) ?_
  refine pv_table (pc := 94) 276 (by decide) rfl (fm_dec dtX11_clause 51 rfl) ?_
  refine pv_aloadn (pc := 276) (n := 0) 0 rfl rfl (fm_dec dtX11_clause 144 rfl) ?_
  refine pv_invV0 (k := 0) (d' := 3) (pc := 277) pcv_X11_170 (by decide) rfl (Nat.le_of_ble_eq_true rfl) (by decide) (fm_dec dtX11_clause 145 rfl) ?_
  refine c_lifeHere (l := D.1) (⟨hS, hf, rdFr.refl M⟩ : rdOk M M tx n q).1 (⟨hS, hf, rdFr.refl M⟩ : rdOk M M tx n q).2.1 hR.1 hD.1 (fun M277 v277 q277 w277 e277 hw277 k277 => ?_) (fun Mb kb ab eb hB => ?_)  
  · refine pv_then1 ?_
    have hvl : v277 < D.1 := (by have := (spNum_ok hS.2.2.2.1 hS.2.2.1 e277).2.2.2; omega)
    have hv8 : v277 < 8 := (by have := hD.1; omega)
    refine pv_istoren (pc := 280) (n := 2) 2 rfl (by decide) rfl (fm_dec dtX11_clause 146 rfl) ?_
    dsimp only [List.set_cons_zero, List.set_cons_succ]
    refine pv_aloadn (pc := 281) (n := 0) 0 rfl rfl (fm_dec dtX11_clause 147 rfl) ?_
    refine pv_getI (k := 0) (j := 5) (ci := 11) (pc := 282) pfl_X11_117 (by decide) rfl (by decide) (fm_dec dtX11_clause 148 rfl) ?_
    refine pv_if_eq (pc := 285) 291 (by decide) (fm_dec dtX11_clause 149 rfl) (fun _ => ?_) (fun hc285 => by exfalso; exact hc285 k277.2.1)
    refine pv_aloadn (pc := 291) (n := 0) 0 rfl rfl (fm_dec dtX11_clause 151 rfl) ?_
    refine pv_invV0 (k := 0) (d' := 1) (pc := 292) pcv_X11_123 (by decide) rfl (Nat.le_of_ble_eq_true rfl) (by decide) (fm_dec dtX11_clause 152 rfl) ?_
    refine r_blanks k277.1 k277.2.1 (fun M292 k292 => ?_)
    refine pv_then0 ?_
    refine pv_aloadn (pc := 295) (n := 0) 0 rfl rfl (fm_dec dtX11_clause 153 rfl) ?_
    refine pv_getI (k := 0) (j := 4) (ci := 11) (pc := 296) pfl_X11_110 (by decide) rfl (by decide) (fm_dec dtX11_clause 154 rfl) ?_
    refine pv_istoren (pc := 299) (n := 3) 3 rfl (by decide) rfl (fm_dec dtX11_clause 155 rfl) ?_
    dsimp only [List.set_cons_zero, List.set_cons_succ]
    refine pv_aloadn (pc := 300) (n := 0) 0 rfl rfl (fm_dec dtX11_clause 156 rfl) ?_
    refine pv_invV0 (k := 0) (d' := 3) (pc := 301) pcv_X11_170 (by decide) rfl (Nat.le_of_ble_eq_true rfl) (by decide) (fm_dec dtX11_clause 157 rfl) ?_
    refine c_lifeHere (l := D.1) k292.1 k292.2.1 (((hR.rd k277.2.2).rd k292.2.2).1) hD.1 (fun M301 v301 q301 w301 e301 hw301 k301 => ?_) (fun Mb kb ab eb hB => ?_)  
    · refine pv_then1 ?_
      rw [spNum_sk k277.1.2.2.2.1 k277.1.2.2.1] at e301
      refine pv_istore (pc := 304) (i := 4) (by decide) rfl (fm_dec dtX11_clause 158 rfl) ?_
      dsimp only [List.set_cons_zero, List.set_cons_succ]
      refine pv_aloadn (pc := 306) (n := 0) 0 rfl rfl (fm_dec dtX11_clause 159 rfl) ?_
      refine pv_getI (k := 0) (j := 5) (ci := 11) (pc := 307) pfl_X11_117 (by decide) rfl (by decide) (fm_dec dtX11_clause 160 rfl) ?_
      refine pv_if_ne (pc := 310) 325 (by decide) (fm_dec dtX11_clause 161 rfl) (fun hc310 => by exfalso; exact hc310 (by (repeat with_reducible refine f0.row ?_ (by omega)); exact k301.2.1)) (fun _ => ?_)
      refine pv_iloadn (pc := 313) (n := 2) 2 rfl rfl (fm_dec dtX11_clause 162 rfl) ?_
      refine pv_iload (pc := 314) (i := 4) rfl (fm_dec dtX11_clause 163 rfl) ?_
      refine pv_icmp_ne (pc := 316) 325 (by decide) (fm_dec dtX11_clause 164 rfl) (fun hc316 => ?_) (fun hc316 => ?_)
      · have hab : ¬ v277 = v301 := fun h9 => hc316 (i32_ext (by rw [hw277, hw301, h9]))
        refine pv_aloadn (pc := 325) (n := 0) 0 rfl rfl (fm_dec dtX11_clause 169 rfl) ?_
        refine pv_getI (k := 0) (j := 5) (ci := 11) (pc := 326) pfl_X11_117 (by decide) rfl (by decide) (fm_dec dtX11_clause 170 rfl) ?_
        refine pv_if_ne (pc := 329) 403 (by decide) (fm_dec dtX11_clause 171 rfl) (fun hc329 => by exfalso; exact hc329 (by (repeat with_reducible refine f0.row ?_ (by omega)); exact k301.2.1)) (fun _ => ?_)
        refine pv_aloadn (pc := 332) (n := 0) 0 rfl rfl (fm_dec dtX11_clause 172 rfl) ?_
        refine pv_getR (k := 0) (j := 13) (ci := 11) (pc := 333) 16 rfl (by decide) pfl_X11_28 (by decide) rfl (by decide) (fm_dec dtX11_clause 173 rfl) ?_
        refine pv_iloadn (pc := 336) (n := 2) 2 rfl rfl (fm_dec dtX11_clause 174 rfl) ?_
        refine pv_aald (k := 16) (n := 8) (r := (27 + v277)) (pc := 337) (by decide) (Or.inr (Or.inr rfl)) rfl (rw_readLife.inb hw277 hv8) (rw_readLife.at hw277 hv8) (rw_readLife.2.2.2 _ hv8).2.1 (fm_dec dtX11_clause 175 rfl) ?_
        refine pv_iconst (pc := 338) (v := 5) (by decide) (fm_dec dtX11_clause 176 rfl) ?_
        refine pv_iload (pc := 339) (i := 4) rfl (fm_dec dtX11_clause 177 rfl) ?_
        refine pv_iast (k := (27 + v277)) (n := 6) (pc := 341) (rw_readLife.2.2.2 _ hv8).2.2.1 (rw_readLife.2.2.2 _ hv8).2.2.2.1 (rw_readLife.2.2.2 _ hv8).2.2.2.2 (fm_inl (by decide)) (fm_dec dtX11_clause 178 rfl) ?_
        refine pv_goto (pc := 342) 403 (by decide) (fm_dec dtX11_clause 179 rfl) ?_
        refine pv_iloadn (pc := 403) (n := 1) 1 rfl rfl (fm_dec dtX11_clause 212 rfl) ?_
        refine pv_iconst (pc := 404) (v := 2) (by decide) (fm_dec dtX11_clause 213 rfl) ?_
        refine pv_icmp_ge (pc := 405) 429 (by decide) (fm_dec dtX11_clause 214 rfl) (fun _ => ?_) (fun hc405 => by exfalso; revert hc405; decide)
        refine pv_aloadn (pc := 429) (n := 0) 0 rfl rfl (fm_dec dtX11_clause 228 rfl) ?_
        refine pv_bipush (pc := 430) (v := 59) (by decide) (fm_dec dtX11_clause 229 rfl) ?_
        refine pv_invV1 (k := 0) (d' := 2) (pc := 432) pcv_X11_173 (by decide) rfl (Nat.le_of_ble_eq_true rfl) (by decide) (fm_dec dtX11_clause 230 rfl) ?_
        refine r_sign (tx := tx) (n := n) (p := q301) 59 ⟨by decide, by decide⟩ (by (repeat with_reducible refine rS.row ?_ ⟨by omega, by omega⟩); exact k301.1) (by (repeat with_reducible refine f0.row ?_ (by omega)); exact k301.2.1) (fun M432 q432 e432 k432 => ?_) (fun Mb kb ab eb hB => ?_)  
        · refine pv_then0 ?_
          exact pv_return (pc := 435) rfl (fm_dec dtX11_clause 231 rfl) (hok _ _ _ (by simp only [spBy, spBind, e277, e301, if_neg hab, e432]) ⟨k432.1, k432.2.1, rep_set (c := 5) (((hR.rd k277.2.2).rd k292.2.2).rd k301.2.2) hvl hD.1 k432.2.2 hw301, (((((hF.rd k277.2.2).rd k292.2.2).rd k301.2.2).row (by omega)).rd k432.2.2).2, (((((hF.rd k277.2.2).rd k292.2.2).rd k301.2.2).row (by omega)).rd k432.2.2).1⟩)
        · refine pv_then0 ?_
          have hB9 := clBad.of ((((hF.rd k277.2.2).rd k292.2.2).rd k301.2.2).row (by omega)).1 hB
          exact pv_return (pc := 435) rfl (fm_dec dtX11_clause 231 rfl) (hbad _ kb ab (by simp only [spBy, spBind, e277, e301, if_neg hab, eb]) (by (repeat with_reducible refine clBad.row (by omega) ?_); exact hB9))
      · refine pv_aloadn (pc := 319) (n := 0) 0 rfl rfl (fm_dec dtX11_clause 165 rfl) ?_
        refine pv_iconst (pc := 320) (v := 2) (by decide) (fm_dec dtX11_clause 166 rfl) ?_
        refine pv_iloadn (pc := 321) (n := 3) 3 rfl rfl (fm_dec dtX11_clause 167 rfl) ?_
        refine pv_invV2 (k := 0) (d' := 0) (pc := 322) pcv_X11_130 (by decide) rfl (Nat.le_of_ble_eq_true rfl) (by decide) (fm_dec dtX11_clause 168 rfl) ?_
        refine c_wrongAt (fun _ => ?_) (fun h9 => absurd k301.2.1 h9) 
        refine pv_then0 ?_
        have hab : v277 = v301 := (by have h9 := hw277; rw [hc316, hw301] at h9; omega)
        have hB : rdBad M301 (fmI (fmI M301 0 5 2) 0 6 (M292.1 0 4)) tx n 2 (sk tx q277) := rdBad.at0 k301.1 (by decide) k292.1.2.1 (by decide)
        have hB9 := clBad.of (((hF.rd k277.2.2).rd k292.2.2).rd k301.2.2).1 hB
        obtain ⟨kb, hkb⟩ : ∃ kb : Nat, kb = 2 := ⟨2, rfl⟩
        obtain ⟨ab, hab2⟩ : ∃ ab : Nat, ab = sk tx q277 := ⟨_, rfl⟩
        rw [← hkb, ← hab2] at hB9
        refine pv_aloadn (pc := 325) (n := 0) 0 rfl rfl (fm_dec dtX11_clause 169 rfl) ?_
        refine pv_getI (k := 0) (j := 5) (ci := 11) (pc := 326) pfl_X11_117 (by decide) rfl (by decide) (fm_dec dtX11_clause 170 rfl) ?_
        refine pv_if_ne (pc := 329) 403 (by decide) (fm_dec dtX11_clause 171 rfl) (fun _ => ?_) (fun hc329 => by exfalso; exact (clBad.nz (M := M0) (tx := tx) (n := n) (k := kb) (a := ab) (by (repeat with_reducible refine clBad.row (by omega) ?_); exact hB9)) hc329)
        refine pv_iloadn (pc := 403) (n := 1) 1 rfl rfl (fm_dec dtX11_clause 212 rfl) ?_
        refine pv_iconst (pc := 404) (v := 2) (by decide) (fm_dec dtX11_clause 213 rfl) ?_
        refine pv_icmp_ge (pc := 405) 429 (by decide) (fm_dec dtX11_clause 214 rfl) (fun _ => ?_) (fun hc405 => by exfalso; revert hc405; decide)
        refine pv_aloadn (pc := 429) (n := 0) 0 rfl rfl (fm_dec dtX11_clause 228 rfl) ?_
        refine pv_bipush (pc := 430) (v := 59) (by decide) (fm_dec dtX11_clause 229 rfl) ?_
        refine pv_invV1 (k := 0) (d' := 2) (pc := 432) pcv_X11_173 (by decide) rfl (Nat.le_of_ble_eq_true rfl) (by decide) (fm_dec dtX11_clause 230 rfl) ?_
        refine c_sign1 (clBad.nz (M := M0) (tx := tx) (n := n) (k := kb) (a := ab) (by (repeat with_reducible refine clBad.row (by omega) ?_); exact hB9)) ?_
        refine pv_then0 ?_
        exact pv_return (pc := 435) rfl (fm_dec dtX11_clause 231 rfl) (hbad _ kb ab (by simp only [spBy, spBind, e277, e301, if_pos hab, hkb, hab2]) (by (repeat with_reducible refine clBad.row (by omega) ?_); exact hB9))
    · refine pv_then1 ?_
      rw [spNum_sk k277.1.2.2.2.1 k277.1.2.2.1] at eb
      have hB9 := clBad.of ((hF.rd k277.2.2).rd k292.2.2).1 hB
      refine pv_istore (pc := 304) (i := 4) (by decide) rfl (fm_dec dtX11_clause 158 rfl) ?_
      dsimp only [List.set_cons_zero, List.set_cons_succ]
      refine pv_aloadn (pc := 306) (n := 0) 0 rfl rfl (fm_dec dtX11_clause 159 rfl) ?_
      refine pv_getI (k := 0) (j := 5) (ci := 11) (pc := 307) pfl_X11_117 (by decide) rfl (by decide) (fm_dec dtX11_clause 160 rfl) ?_
      refine pv_if_ne (pc := 310) 325 (by decide) (fm_dec dtX11_clause 161 rfl) (fun _ => ?_) (fun hc310 => by exfalso; exact (clBad.nz (M := M0) (tx := tx) (n := n) (k := kb) (a := ab) (by (repeat with_reducible refine clBad.row (by omega) ?_); exact hB9)) hc310)
      refine pv_aloadn (pc := 325) (n := 0) 0 rfl rfl (fm_dec dtX11_clause 169 rfl) ?_
      refine pv_getI (k := 0) (j := 5) (ci := 11) (pc := 326) pfl_X11_117 (by decide) rfl (by decide) (fm_dec dtX11_clause 170 rfl) ?_
      refine pv_if_ne (pc := 329) 403 (by decide) (fm_dec dtX11_clause 171 rfl) (fun _ => ?_) (fun hc329 => by exfalso; exact (clBad.nz (M := M0) (tx := tx) (n := n) (k := kb) (a := ab) (by (repeat with_reducible refine clBad.row (by omega) ?_); exact hB9)) hc329)
      refine pv_iloadn (pc := 403) (n := 1) 1 rfl rfl (fm_dec dtX11_clause 212 rfl) ?_
      refine pv_iconst (pc := 404) (v := 2) (by decide) (fm_dec dtX11_clause 213 rfl) ?_
      refine pv_icmp_ge (pc := 405) 429 (by decide) (fm_dec dtX11_clause 214 rfl) (fun _ => ?_) (fun hc405 => by exfalso; revert hc405; decide)
      refine pv_aloadn (pc := 429) (n := 0) 0 rfl rfl (fm_dec dtX11_clause 228 rfl) ?_
      refine pv_bipush (pc := 430) (v := 59) (by decide) (fm_dec dtX11_clause 229 rfl) ?_
      refine pv_invV1 (k := 0) (d' := 2) (pc := 432) pcv_X11_173 (by decide) rfl (Nat.le_of_ble_eq_true rfl) (by decide) (fm_dec dtX11_clause 230 rfl) ?_
      refine c_sign1 (clBad.nz (M := M0) (tx := tx) (n := n) (k := kb) (a := ab) (by (repeat with_reducible refine clBad.row (by omega) ?_); exact hB9)) ?_
      refine pv_then0 ?_
      exact pv_return (pc := 435) rfl (fm_dec dtX11_clause 231 rfl) (hbad _ kb ab (by simp only [spBy, spBind, e277, eb]) (by (repeat with_reducible refine clBad.row (by omega) ?_); exact hB9))
  · refine pv_then1 ?_
    have hB9 := clBad.of (hF).1 hB
    refine pv_istoren (pc := 280) (n := 2) 2 rfl (by decide) rfl (fm_dec dtX11_clause 146 rfl) ?_
    dsimp only [List.set_cons_zero, List.set_cons_succ]
    refine pv_aloadn (pc := 281) (n := 0) 0 rfl rfl (fm_dec dtX11_clause 147 rfl) ?_
    refine pv_getI (k := 0) (j := 5) (ci := 11) (pc := 282) pfl_X11_117 (by decide) rfl (by decide) (fm_dec dtX11_clause 148 rfl) ?_
    refine pv_if_eq (pc := 285) 291 (by decide) (fm_dec dtX11_clause 149 rfl) (fun hc285 => by exfalso; exact (clBad.nz (M := M0) (tx := tx) (n := n) (k := kb) (a := ab) (by (repeat with_reducible refine clBad.row (by omega) ?_); exact hB9)) hc285) (fun _ => ?_)
    refine pv_goto (pc := 288) 403 (by decide) (fm_dec dtX11_clause 150 rfl) ?_
    refine pv_iloadn (pc := 403) (n := 1) 1 rfl rfl (fm_dec dtX11_clause 212 rfl) ?_
    refine pv_iconst (pc := 404) (v := 2) (by decide) (fm_dec dtX11_clause 213 rfl) ?_
    refine pv_icmp_ge (pc := 405) 429 (by decide) (fm_dec dtX11_clause 214 rfl) (fun _ => ?_) (fun hc405 => by exfalso; revert hc405; decide)
    refine pv_aloadn (pc := 429) (n := 0) 0 rfl rfl (fm_dec dtX11_clause 228 rfl) ?_
    refine pv_bipush (pc := 430) (v := 59) (by decide) (fm_dec dtX11_clause 229 rfl) ?_
    refine pv_invV1 (k := 0) (d' := 2) (pc := 432) pcv_X11_173 (by decide) rfl (Nat.le_of_ble_eq_true rfl) (by decide) (fm_dec dtX11_clause 230 rfl) ?_
    refine c_sign1 (clBad.nz (M := M0) (tx := tx) (n := n) (k := kb) (a := ab) (by (repeat with_reducible refine clBad.row (by omega) ?_); exact hB9)) ?_
    refine pv_then0 ?_
    exact pv_return (pc := 435) rfl (fm_dec dtX11_clause 231 rfl) (hbad _ kb ab (by simp only [spBy, spBind, eb]) (by (repeat with_reducible refine clBad.row (by omega) ?_); exact hB9))
end
-- P 11k
section
-- THE REFERENCE READS A DRAWER
theorem clFr.at0 {M : fmM} {x : Int32} : clFr M (fmI M 0 4 x) := by
  refine ⟨fun k' j' a b c d => ?_, fun j' a b c d => ?_, rfl⟩
  · rw [fmI_k _ _ a]
  · rw [fmI_j _ _ a]
theorem clOk.pre {M M' : fmM} {tx : tX} {n q : Nat} {D : dD} {x : Int32} (h : clOk (fmI M 0 4 x) M' tx n q D) : clOk M M' tx n q D := ⟨h.1, h.2.1, h.2.2.1, h.2.2.2.1.trans (by rw [fmI_j _ _ (by decide)]), clFr.at0.trans h.2.2.2.2⟩
theorem clBad.pre {M M' : fmM} {tx : tX} {n k a : Nat} {x : Int32} (h : clBad (fmI M 0 4 x) M' tx n k a) : clBad M M' tx n k a := ⟨h.1, h.2.1, h.2.2.1, h.2.2.2.1, clFr.at0.trans h.2.2.2.2⟩
theorem spClause_sk {tx : tX} {n c p : Nat} {D : dD} (ht : tOk tx n) (hp : p ≤ n) : spClause tx c D (sk tx p) = spClause tx c D p := by
  unfold spClause
  rw [sk_sk ht hp]
theorem spNum_b {tx : tX} {n p : Nat} {lo hi : Int} {e : Nat × Nat} (ht : tOk tx n) (hp : p ≤ n) (h : spNum tx lo hi p = .inl e) : (1 ≤ e.1 ∧ e.1 ≤ 3) ∧ e.2 ≤ n := by
  have := spNum_bad (k := e.1) (a := e.2) ht hp h
  omega
theorem spSign_b {tx : tX} {n p : Nat} {c : Int} {e : Nat × Nat} (ht : tOk tx n) (hp : p ≤ n) (h : spSign tx c p = .inl e) : (1 ≤ e.1 ∧ e.1 ≤ 3) ∧ e.2 ≤ n := by
  have := spSign_bad (k := e.1) (a := e.2) ht hp h
  omega
theorem spBind_b {α β : Type} {n : Nat} {r : tR α} {k : α → Nat → tR β} {e : Nat × Nat} (h : spBind r k = .inl e) (h1 : ∀ e, r = .inl e → (1 ≤ e.1 ∧ e.1 ≤ 3) ∧ e.2 ≤ n) (h2 : ∀ v q, r = .inr (v, q) → k v q = .inl e → (1 ≤ e.1 ∧ e.1 ≤ 3) ∧ e.2 ≤ n) : (1 ≤ e.1 ∧ e.1 ≤ 3) ∧ e.2 ≤ n := by
  cases r with
  | inl e' =>
    injection h with h
    subst h
    exact h1 _ rfl
  | inr w =>
    obtain ⟨v, q⟩ := w
    exact h2 v q rfl h
theorem spClause_bad {tx : tX} {n c p : Nat} {D : dD} {e : Nat × Nat} (ht : tOk tx n) (hp : p ≤ n) (h : spClause tx c D p = .inl e) : (1 ≤ e.1 ∧ e.1 ≤ 3) ∧ e.2 ≤ n := by
  have s2 : sk tx p ≤ n := sp_le tB_1 ht hp
  have w2 := sp_le (p := sk tx p) tW_1 ht s2
  unfold spClause at h
  split at h
  · cases h
    exact ⟨⟨Nat.le_refl 1, (show 1 ≤ 3 by decide)⟩, s2⟩
  · split at h
    · cases h
      exact ⟨⟨(show 1 ≤ 3 by decide), Nat.le_refl 3⟩, s2⟩
    · split at h
      · refine spBind_b h (fun e h => spNum_b ht w2 h) (fun _ _ e1 h => ?_)
        have a1 := (spNum_ok ht w2 e1).2.1
        refine spBind_b h (fun e h => spNum_b ht a1 h) (fun _ _ e1 h => ?_)
        have a1 := (spNum_ok ht a1 e1).2.1
        refine spBind_b h (fun e h => spNum_b ht a1 h) (fun _ _ e1 h => ?_)
        have a1 := (spNum_ok ht a1 e1).2.1
        refine spBind_b h (fun e h => spNum_b ht a1 h) (fun _ _ e1 h => ?_)
        have a1 := (spNum_ok ht a1 e1).2.1
        exact spBind_b h (fun e h => spSign_b ht a1 h) (fun _ _ e1 h => (by cases h))
      · refine spBind_b h (fun e h => spNum_b ht w2 h) (fun _ _ e1 h => ?_)
        have a1 := (spNum_ok ht w2 e1).2.1
        refine spBind_b h (fun e h => spNum_b ht a1 h) (fun _ _ e1 h => ?_)
        have a1 := (spNum_ok ht a1 e1).2.1
        refine spBind_b h (fun e h => spNum_b ht a1 h) (fun _ _ e1 h => ?_)
        have a1 := (spNum_ok ht a1 e1).2.1
        exact spBind_b h (fun e h => spSign_b ht a1 h) (fun _ _ e1 h => (by cases h))
      · refine spBind_b h (fun e h => spNum_b ht w2 h) (fun _ _ e1 h => ?_)
        have a1 := (spNum_ok ht w2 e1).2.1
        refine spBind_b h (fun e h => spNum_b ht a1 h) (fun _ _ e1 h => ?_)
        have a1 := (spNum_ok ht a1 e1).2.1
        exact spBind_b h (fun e h => spSign_b ht a1 h) (fun _ _ e1 h => (by cases h))
      · refine spBind_b h (fun e h => spNum_b ht w2 h) (fun _ _ e1 h => ?_)
        have a1 := (spNum_ok ht w2 e1).2.1
        refine spBind_b h (fun e h => spNum_b ht a1 h) (fun _ _ e1 h => ?_)
        have a2 := (spNum_ok ht a1 e1).2.1
        split at h
        · cases h
          exact ⟨⟨(show 1 ≤ 2 by decide), (show 2 ≤ 3 by decide)⟩, sp_le tB_1 ht a1⟩
        · exact spBind_b h (fun e h => spSign_b ht a2 h) (fun _ _ e1 h => (by cases h))
      · refine spBind_b h (fun e h => spNum_b ht w2 h) (fun _ _ e1 h => ?_)
        have a1 := (spNum_ok ht w2 e1).2.1
        exact spBind_b h (fun e h => spSign_b ht a1 h) (fun _ _ e1 h => (by cases h))
theorem spClause_60 {tx : tX} {p : Nat} {D : dD} {r : dD × Nat} (h : spClause tx 60 D p = .inr r) : False := by
  unfold spClause at h
  split at h
  · cases h
  · rw [if_pos (Or.inl rfl)] at h
    cases h
theorem dwL_0 {tx : tX} {n f c p : Nat} {D : dD} (h : n ≤ p) : dwL tx n (f + 1) c D p = .inr D := by simp only [dwL]; rw [if_pos h]
theorem dwL_1 {tx : tX} {n f c p : Nat} {D : dD} {e : Nat × Nat} (h : ¬ n ≤ p) (h1 : spClause tx c D p = .inl e) : dwL tx n (f + 1) c D p = .inl e := by simp only [dwL]; rw [if_neg h, h1]
theorem dwL_2 {tx : tX} {n f c p q : Nat} {D D' : dD} (h : ¬ n ≤ p) (h1 : spClause tx c D p = .inr (D', q)) : dwL tx n (f + 1) c D p = dwL tx n f (c + 1) D' (sk tx q) := by simp only [dwL]; rw [if_neg h, h1]
theorem dwL_fuel {tx : tX} {n : Nat} (ht : tOk tx n) : ∀ (f c : Nat) (D : dD) (p : Nat), p ≤ n → dOk D → n - p < f → ∀ a, ¬ dwL tx n f c D p = .inl (9, a)
  | 0, _, _, _, _, _, h, _ => by omega
  | f + 1, c, D, p, hp, hD, h, a => by
    intro e
    by_cases hn : n ≤ p
    · rw [dwL_0 hn] at e; cases e
    · cases hc : spClause tx c D p with
      | inl e' =>
        rw [dwL_1 hn hc] at e
        cases e
        have := (spClause_bad ht hp hc).1.2
        exact absurd this (show ¬ 9 ≤ 3 by decide)
      | inr r =>
        obtain ⟨D', q⟩ := r
        rw [dwL_2 hn hc] at e
        have a1 := spClause_ok ht hp hD hc
        have s1 := sp_ge (P := tB) (tx := tx) q
        have s2 := sp_le tB_1 ht a1.2.2
        exact dwL_fuel ht f _ _ _ s2 a1.1 (by omega) a e
theorem dwL_bad {tx : tX} {n : Nat} (ht : tOk tx n) : ∀ (f c : Nat) (D : dD) (p : Nat) (e : Nat × Nat), p ≤ n → dOk D → dwL tx n f c D p = .inl e → e.1 ≠ 9 → (1 ≤ e.1 ∧ e.1 ≤ 3) ∧ e.2 ≤ n
  | 0, _, _, _, e, _, _, h, hk => by
    cases h
    exact absurd rfl hk
  | f + 1, c, D, p, e, hp, hD, h, hk => by
    by_cases hn : n ≤ p
    · rw [dwL_0 hn] at h; cases h
    · cases hc : spClause tx c D p with
      | inl e' =>
        rw [dwL_1 hn hc] at h
        cases h
        exact spClause_bad ht hp hc
      | inr r =>
        obtain ⟨D', q⟩ := r
        rw [dwL_2 hn hc] at h
        have a1 := spClause_ok ht hp hD hc
        exact dwL_bad ht f _ _ _ e (sp_le tB_1 ht a1.2.2) a1.1 h hk
/-- a stretch of one row is laid anew -/
def upR (c a b : Nat) (v : Nat → Int32) (M M' : fmM) : Prop := (∀ j, a ≤ j → j < b → M'.1 c j = v j) ∧ (∀ q j, ¬ (q = c ∧ a ≤ j ∧ j < b) → M'.1 q j = M.1 q j) ∧ M'.2 = M.2
theorem upR.nil {c b : Nat} {v : Nat → Int32} {M : fmM} : upR c b b v M M := ⟨fun j h1 h2 => by omega, fun _ _ _ => rfl, rfl⟩
theorem upR.step {c a b : Nat} {v : Nat → Int32} {M M' : fmM} {x : Int32} (h : upR c (a + 1) b v (fmI M c a x) M') (hab : a < b) (hx : x = v a) : upR c a b v M M' := by
  refine ⟨fun j h1 h2 => ?_, fun q j hq => ?_, h.2.2⟩
  · by_cases e : j = a
    · subst e
      rw [h.2.1 c j (by omega), fmI_s]
      exact hx
    · exact h.1 j (by omega) h2
  · rw [h.2.1 q j (by omega)]
    by_cases e : q = c
    · subst e
      rw [fmI_j _ _ (by omega)]
    · rw [fmI_k _ _ e]
def vNow (M : fmM) (j : Nat) : Int32 := if j = 0 ∨ 9 ≤ j then 0 else if ((j - 1 : Nat) : Int) < (M.1 4 0).toInt ∧ ¬ M.1 (35 + (j - 1)) 4 = -1 then - M.1 (35 + (j - 1)) 4 else -1000
theorem ix_in {x : Int32} {k N : Nat} (h : x.toInt = k) (hk : k < N) : vp_in x N := vp_in_iff.mpr ⟨by omega, by omega⟩
theorem ix_at {x : Int32} {k : Nat} (h : x.toInt = k) : x.toNatClampNeg = k := by
  show x.toInt.toNat = k
  omega
theorem ix_1 {x : Int32} {k : Nat} (h : x.toInt = k) (hk : k < 1000) : (1 + x).toInt = ((1 + k : Nat) : Int) := by
  have e1 : (1 : Int32).toInt = 1 := by decide
  rw [Int32.toInt_add, e1, h]
  exact (Int.bmod_eq_of_le (by omega) (by omega)).trans (by omega)
theorem vn_ge {M : fmM} {kk : Int32} {k : Nat} (h : kk.toInt = k) (hk : k < 8) (hc : M.1 4 0 ≤ kk) : (-1000 : Int32) = vNow M (1 + k) := by
  rw [sc_le] at hc
  unfold vNow
  rw [if_neg (by omega), if_neg (by rw [show 1 + k - 1 = k by omega]; omega)]
theorem vn_ne {M : fmM} {kk : Int32} {k : Nat} (h : kk.toInt = k) (hk : k < 8) (hc : ¬ M.1 4 0 ≤ kk) (h2 : ¬ M.1 (35 + k) 4 = -1) : - M.1 (35 + k) 4 = vNow M (1 + k) := by
  rw [sc_le] at hc
  unfold vNow
  rw [if_neg (by omega), show 1 + k - 1 = k by omega, if_pos ⟨by omega, h2⟩]
theorem vn_eq {M : fmM} {k : Nat} (hk : k < 8) (h2 : M.1 (35 + k) 4 = -1) : (-1000 : Int32) = vNow M (1 + k) := by
  unfold vNow
  rw [if_neg (by omega), show 1 + k - 1 = k by omega, if_neg (fun h => h.2 h2)]
theorem vn_k {M : fmM} {i c : Nat} {x : Int32} : vNow (fmI M 7 c x) (1 + i) = vNow M (1 + i) := by
  by_cases h : i < 8
  · unfold vNow
    rw [fmI_k _ _ (by decide), fmI_k _ _ (by omega)]
  · unfold vNow
    rw [if_pos (by omega), if_pos (by omega)]
/-- what stands after a drawer is told -/
def sdOk (M M' : fmM) (D : dD) : Prop := ((M'.1 4 0).toInt = (D.1 : Int) ∧ (M'.1 4 1).toInt = (D.2.2.1 : Int) ∧ (∀ k, 2 ≤ k → k ≤ 5 → (M'.1 4 k).toInt = D.2.2.2.2 k) ∧ (∀ i, i < D.1 → ∀ j, j < 6 → (M'.1 (35 + i) j).toInt = D.2.1 i j) ∧ ∀ i, i < D.2.2.1 → ∀ j, j < 3 → (M'.1 (67 + i) j).toInt = D.2.2.2.1 i j) ∧ ((∀ i, i < 8 → (M'.1 7 (1 + i)).toInt = if i < D.1 ∧ ¬ D.2.1 i 4 = -1 then - D.2.1 i 4 else -1000) ∧ (M'.1 7 9).toInt = D.2.2.2.2 2 ∧ ∀ j, j = 0 ∨ (10 ≤ j ∧ j < 14) → M'.1 7 j = 0) ∧ (M'.1 0 17 = 0 ∧ M'.1 0 31 = 0 ∧ M'.1 0 32 = 0 ∧ M'.1 0 33 = 0 ∧ M'.1 0 34 = 0) ∧ (∀ k j, k ≠ 0 → k ≠ 4 → k ≠ 7 → ¬ (35 ≤ k ∧ k < 43) → ¬ (67 ≤ k ∧ k < 91) → M'.1 k j = M.1 k j) ∧ (∀ j, j ≠ 17 → j ≠ 31 → j ≠ 32 → j ≠ 33 → j ≠ 34 → M'.1 0 j = M.1 0 j) ∧ (∀ k j, (35 + D.1 ≤ k ∧ k < 43) ∨ (67 + D.2.2.1 ≤ k ∧ k < 91) → M'.1 k j = M.1 k j) ∧ M'.2 = M.2
theorem neg40 {x : Int32} {v : Int} (h : x.toInt = v) (h1 : -1 ≤ v) (h2 : v ≤ 40) : (-x).toInt = -v := by
  rw [Int32.toInt_neg, h]
  exact Int.bmod_eq_of_le (by omega) (by omega)
theorem sd_ok {M M1 M2 M3 M4 M5 : fmM} {D : dD} (hR : dRep M D) (hD : dOk D) (h1 : upR 4 0 6 (fun j => M.1 3 j) M M1) (h2 : lyOk 27 35 6 0 D.1 M1 M2) (h3 : lyOk 43 67 3 0 D.2.2.1 M2 M3) (h4 : upR 7 0 14 (fun _ => 0) M3 M4) (h5 : upR 7 1 9 (vNow M4) M4 M5) : sdOk M (fmI (fmI (fmI (fmI (fmI (fmI M5 7 9 (M5.1 4 2)) 0 17 0) 0 31 0) 0 32 0) 0 33 0) 0 34 0) D := by
  obtain ⟨r1, r2, r3, r4, r5⟩ := hR
  have d1 := hD.1
  have d2 := hD.2.1
  have g5 : ∀ k j, k ≠ 7 → M5.1 k j = M3.1 k j := fun k j a => by rw [h5.2.1 k j (by omega), h4.2.1 k j (by omega)]
  have g4' : ∀ k j, k ≠ 7 → M4.1 k j = M3.1 k j := fun k j a => by rw [h4.2.1 k j (by omega)]
  have g3 : ∀ k j, k ≠ 4 → ¬ (35 ≤ k ∧ k < 43) → ¬ (67 ≤ k ∧ k < 91) → M3.1 k j = M.1 k j := fun k j a b c => by
    rw [h3.2.1 k j (by omega), h2.2.1 k j (by omega), h1.2.1 k j (by omega)]
  have g4 : ∀ j, j < 6 → M3.1 4 j = M.1 3 j := fun j hj => by
    rw [h3.2.1 4 j (by omega), h2.2.1 4 j (by omega), h1.1 j (by omega) hj]
  have gL : ∀ i, i < D.1 → ∀ j, j < 6 → M3.1 (35 + i) j = M.1 (27 + i) j := fun i hi j hj => by
    rw [h3.2.1 _ _ (by omega), h2.1 i j (by omega) hi hj, h1.2.1 _ _ (by omega)]
  have gF : ∀ i, i < D.2.2.1 → ∀ j, j < 3 → M3.1 (67 + i) j = M.1 (43 + i) j := fun i hi j hj => by
    rw [h3.1 i j (by omega) hi hj, h2.2.1 _ _ (by omega), h1.2.1 _ _ (by omega)]
  have eF : ∀ k j, k ≠ 0 → (fmI (fmI (fmI (fmI (fmI (fmI M5 7 9 (M5.1 4 2)) 0 17 0) 0 31 0) 0 32 0) 0 33 0) 0 34 0).1 k j = (fmI M5 7 9 (M5.1 4 2)).1 k j := fun k j a => by
    rw [fmI_k _ _ a, fmI_k _ _ a, fmI_k _ _ a, fmI_k _ _ a, fmI_k _ _ a]
  have e7 : ∀ k j, k ≠ 0 → k ≠ 7 → (fmI (fmI (fmI (fmI (fmI (fmI M5 7 9 (M5.1 4 2)) 0 17 0) 0 31 0) 0 32 0) 0 33 0) 0 34 0).1 k j = M3.1 k j := fun k j a b => by
    rw [eF k j a, fmI_k _ _ b, g5 k j b]
  refine ⟨⟨?_, ?_, fun k a b => ?_, fun i hi j hj => ?_, fun i hi j hj => ?_⟩, ⟨fun i hi => ?_, ?_, fun j hj => ?_⟩, ⟨rfl, rfl, rfl, rfl, rfl⟩, fun k j a b c d e => ?_, fun j a b c d e => ?_, fun k j a => ?_, ?_⟩
  · rw [e7 _ _ (by decide) (by decide), g4 _ (by decide)]; exact r1
  · rw [e7 _ _ (by decide) (by decide), g4 _ (by decide)]; exact r2
  · rw [e7 _ _ (by decide) (by decide), g4 _ (by omega)]; exact r3 k a b
  · rw [e7 _ _ (by omega) (by omega), gL i hi j hj]; exact r4 i hi j hj
  · rw [e7 _ _ (by omega) (by omega), gF i hi j hj]; exact r5 i hi j hj
  · rw [eF _ _ (by decide), fmI_j _ _ (by omega), h5.1 (1 + i) (by omega) (by omega)]
    unfold vNow
    rw [if_neg (by omega), show 1 + i - 1 = i by omega, g4' 4 0 (by decide), g4' _ _ (by omega), g4 0 (by decide)]
    by_cases hl : i < D.1
    · have hv := r4 i hl 4 (by decide)
      have hd := (hD.2.2.1 i hl).2.2.2.2.1
      rw [gL i hl 4 (by decide)]
      by_cases hm : D.2.1 i 4 = -1
      · rw [if_neg (fun h => h.2 (i32_ext (hv.trans (hm.trans (by decide))))), if_neg (fun h => h.2 hm)]
        decide
      · rw [if_pos ⟨by omega, fun h => hm (hv.symm.trans ((congrArg Int32.toInt h).trans (by decide)))⟩, if_pos ⟨hl, hm⟩]
        exact neg40 hv hd.1 hd.2
    · rw [if_neg (fun h => hl (by have := h.1; omega)), if_neg (fun h => hl h.1)]
      decide
  · rw [eF _ _ (by decide), fmI_s, g5 _ _ (by decide), g4 _ (by decide)]; exact r3 2 (by decide) (by decide)
  · rw [eF _ _ (by decide), fmI_j _ _ (by omega), h5.2.1 _ _ (by omega), h4.1 j (by omega) (by omega)]
  · rw [e7 k j a c, g3 k j b d e]
  · rw [fmI_j _ _ e, fmI_j _ _ d, fmI_j _ _ c, fmI_j _ _ b, fmI_j _ _ a, fmI_k _ _ (by decide), g5 _ _ (by decide), g3 _ _ (by decide) (by omega) (by omega)]
  · rw [e7 k j (by omega) (by omega), h3.2.1 k j (by omega), h2.2.1 k j (by omega), h1.2.1 k j (by omega)]
  · show M5.2 = M.2
    rw [h5.2.2, h4.2.2, h3.2.2, h2.2.2, h1.2.2]
def tnM (M : fmM) : fmM := fmI (fmI (fmI (fmI (fmI (fmI M 3 0 0) 3 1 0) 3 2 8) 3 3 5) 3 4 3) 3 5 2
theorem tn_rep {M : fmM} : dRep (tnM M) dD0 := by
  refine ⟨(show (0 : Int32).toInt = 0 by decide), (show (0 : Int32).toInt = 0 by decide), fun k a b => ?_, fun i hi => (by cases hi), fun i hi => (by cases hi)⟩
  rcases (show k = 2 ∨ k = 3 ∨ k = 4 ∨ k = 5 by omega) with rfl | rfl | rfl | rfl
  · exact (show (8 : Int32).toInt = 8 by decide)
  · exact (show (5 : Int32).toInt = 5 by decide)
  · exact (show (3 : Int32).toInt = 3 by decide)
  · exact (show (2 : Int32).toInt = 2 by decide)
theorem tn_fr {M : fmM} : clFr M (tnM M) := by
  refine ⟨fun k j a b c d => ?_, fun j a b c d => ?_, rfl⟩
  · unfold tnM
    rw [fmI_k _ _ b, fmI_k _ _ b, fmI_k _ _ b, fmI_k _ _ b, fmI_k _ _ b, fmI_k _ _ b]
  · unfold tnM
    have b : (0 : Nat) ≠ 3 := by decide
    rw [fmI_k _ _ b, fmI_k _ _ b, fmI_k _ _ b, fmI_k _ _ b, fmI_k _ _ b, fmI_k _ _ b]
/-- a drawer is read, and stands -/
def dwEnd (M1 M' : fmM) (D : dD) : Prop := M'.1 0 3 = -1 ∧ ∃ M, clFr M1 M ∧ sdOk (fmI M 0 3 (-1)) M' D
def dwBad (M1 M' : fmM) (a : Nat) : Prop := (M'.1 0 3).toInt = a ∧ ∃ M, clFr M1 M ∧ M' = fmI M 0 3 (M.1 0 6)
set_option maxRecDepth 20000 in
theorem cl5_0 {Q : fmR → fmM → Prop} {M : fmM} {tx : tX} {n a c : Nat} {D : dD} {v2 v3 v4 : Option Value} (ha : sk tx a = a) (hk : dwK (wd tx a) = some 0) (hS : rS M tx n a) (hf : M.1 0 5 = 0) (h7 : (M.1 0 7).toInt = c) (hR : dRep M D) (hD : dOk D) (hok : ∀ (M' : fmM) (D' : dD) (q' : Nat), spClause tx c D a = .inr (D', q') → clOk M M' tx n q' D' → Q (.inl none) M') (hbad : ∀ (M' : fmM) (k a' : Nat), spClause tx c D a = .inl (k, a') → clBad M M' tx n k a' → Q (.inl none) M') : pvEv Tm 5 qX11_clause 5 [some (.ref 0), some (.int 0), v2, v3, v4] [] M Q := by
  refine pv_iloadn (pc := 5) (n := 1) 1 rfl rfl (fm_dec dtX11_clause 3 rfl) ?_
  refine pv_iconst (pc := 6) (v := (-1)) (by decide) (fm_dec dtX11_clause 4 rfl) ?_
  refine pv_icmp_ne (pc := 7) 22 (by decide) (fm_dec dtX11_clause 5 rfl) (fun _ => ?_) (fun hc7 => by exfalso; revert hc7; decide)
  refine pv_aloadn (pc := 22) (n := 0) 0 rfl rfl (fm_dec dtX11_clause 12 rfl) ?_
  refine pv_getI (k := 0) (j := 7) (ci := 11) (pc := 23) pfl_X11_157 (by decide) rfl (by decide) (fm_dec dtX11_clause 13 rfl) ?_
  refine pv_bipush (pc := 26) (v := 60) (by decide) (fm_dec dtX11_clause 14 rfl) ?_
  refine pv_icmp_eq (pc := 28) 62 (by decide) (fm_dec dtX11_clause 15 rfl) (fun hc28 => ?_) (fun hc28 => ?_)
  · refine pv_aloadn (pc := 62) (n := 0) 0 rfl rfl (fm_dec dtX11_clause 33 rfl) ?_
    refine pv_iconst (pc := 63) (v := 3) (by decide) (fm_dec dtX11_clause 34 rfl) ?_
    refine pv_aloadn (pc := 64) (n := 0) 0 rfl rfl (fm_dec dtX11_clause 35 rfl) ?_
    refine pv_getI (k := 0) (j := 4) (ci := 11) (pc := 65) pfl_X11_110 (by decide) rfl (by decide) (fm_dec dtX11_clause 36 rfl) ?_
    refine pv_invV2 (k := 0) (d' := 0) (pc := 68) pcv_X11_130 (by decide) rfl (Nat.le_of_ble_eq_true rfl) (by decide) (fm_dec dtX11_clause 37 rfl) ?_
    refine c_wrongAt (fun _ => ?_) (fun h9 => absurd hf h9) 
    refine pv_then0 ?_
    refine pv_aloadn (pc := 71) (n := 0) 0 rfl rfl (fm_dec dtX11_clause 38 rfl) ?_
    refine pv_getI (k := 0) (j := 5) (ci := 11) (pc := 72) pfl_X11_117 (by decide) rfl (by decide) (fm_dec dtX11_clause 39 rfl) ?_
    refine pv_if_eq (pc := 75) 79 (by decide) (fm_dec dtX11_clause 40 rfl) (fun hc75 => by exfalso; exact absurd (show (3 : Int32) = 0 from hc75) (by decide)) (fun _ => ?_)
    exact pv_return (pc := 78) rfl (fm_dec dtX11_clause 41 rfl) (hbad _ 3 a (by unfold spClause; rw [ha, hk]; exact if_pos (Or.inl (eq60 h7 hc28))) (clBad.of (clFr.refl M) (rdBad.at0 hS (by decide) hS.2.1 (by decide))))
  · refine pv_iloadn (pc := 31) (n := 1) 1 rfl rfl (fm_dec dtX11_clause 16 rfl) ?_
    refine pv_if_ne (pc := 32) 46 (by decide) (fm_dec dtX11_clause 17 rfl) (fun hc32 => by exfalso; revert hc32; decide) (fun _ => ?_)
    refine pv_aloadn (pc := 35) (n := 0) 0 rfl rfl (fm_dec dtX11_clause 18 rfl) ?_
    refine pv_getR (k := 0) (j := 11) (ci := 11) (pc := 36) 3 rfl (by decide) pfl_X11_20 (by decide) rfl (by decide) (fm_dec dtX11_clause 19 rfl) ?_
    refine pv_iconst (pc := 39) (v := 0) (by decide) (fm_dec dtX11_clause 20 rfl) ?_
    refine pv_iald (k := 3) (n := 6) (pc := 40) (by decide) rfl rfl (fm_inl (by decide)) (fm_dec dtX11_clause 21 rfl) ?_
    refine pv_bipush (pc := 41) (v := 8) (by decide) (fm_dec dtX11_clause 22 rfl) ?_
    refine pv_icmp_eq (pc := 43) 62 (by decide) (fm_dec dtX11_clause 23 rfl) (fun hc43 => ?_) (fun hc43 => ?_)
    · refine pv_aloadn (pc := 62) (n := 0) 0 rfl rfl (fm_dec dtX11_clause 33 rfl) ?_
      refine pv_iconst (pc := 63) (v := 3) (by decide) (fm_dec dtX11_clause 34 rfl) ?_
      refine pv_aloadn (pc := 64) (n := 0) 0 rfl rfl (fm_dec dtX11_clause 35 rfl) ?_
      refine pv_getI (k := 0) (j := 4) (ci := 11) (pc := 65) pfl_X11_110 (by decide) rfl (by decide) (fm_dec dtX11_clause 36 rfl) ?_
      refine pv_invV2 (k := 0) (d' := 0) (pc := 68) pcv_X11_130 (by decide) rfl (Nat.le_of_ble_eq_true rfl) (by decide) (fm_dec dtX11_clause 37 rfl) ?_
      refine c_wrongAt (fun _ => ?_) (fun h9 => absurd hf h9) 
      refine pv_then0 ?_
      refine pv_aloadn (pc := 71) (n := 0) 0 rfl rfl (fm_dec dtX11_clause 38 rfl) ?_
      refine pv_getI (k := 0) (j := 5) (ci := 11) (pc := 72) pfl_X11_117 (by decide) rfl (by decide) (fm_dec dtX11_clause 39 rfl) ?_
      refine pv_if_eq (pc := 75) 79 (by decide) (fm_dec dtX11_clause 40 rfl) (fun hc75 => by exfalso; exact absurd (show (3 : Int32) = 0 from hc75) (by decide)) (fun _ => ?_)
      exact pv_return (pc := 78) rfl (fm_dec dtX11_clause 41 rfl) (hbad _ 3 a (by unfold spClause; rw [ha, hk]; exact if_pos (Or.inr (Or.inl ⟨rfl, eq8 hR.1 hc43⟩))) (clBad.of (clFr.refl M) (rdBad.at0 hS (by decide) hS.2.1 (by decide))))
    · refine pv_iloadn (pc := 46) (n := 1) 1 rfl rfl (fm_dec dtX11_clause 24 rfl) ?_
      refine pv_iconst (pc := 47) (v := 1) (by decide) (fm_dec dtX11_clause 25 rfl) ?_
      refine pv_icmp_ne (pc := 48) 71 (by decide) (fm_dec dtX11_clause 26 rfl) (fun _ => ?_) (fun hc48 => by exfalso; revert hc48; decide)
      refine pv_aloadn (pc := 71) (n := 0) 0 rfl rfl (fm_dec dtX11_clause 38 rfl) ?_
      refine pv_getI (k := 0) (j := 5) (ci := 11) (pc := 72) pfl_X11_117 (by decide) rfl (by decide) (fm_dec dtX11_clause 39 rfl) ?_
      refine pv_if_eq (pc := 75) 79 (by decide) (fm_dec dtX11_clause 40 rfl) (fun _ => ?_) (fun hc75 => by exfalso; exact hc75 hf)
      refine pv_aloadn (pc := 79) (n := 0) 0 rfl rfl (fm_dec dtX11_clause 42 rfl) ?_
      refine pv_invV0 (k := 0) (d' := 1) (pc := 80) pcv_X11_154 (by decide) rfl (Nat.le_of_ble_eq_true rfl) (by decide) (fm_dec dtX11_clause 43 rfl) ?_
      refine c_skipWord hS (fun x80 hx80 => ?_)
      refine pv_then0 ?_
      refine pv_aloadn (pc := 83) (n := 0) 0 rfl rfl (fm_dec dtX11_clause 44 rfl) ?_
      refine pv_dup (pc := 84) rfl (fm_dec dtX11_clause 45 rfl) ?_
      refine pv_getI (k := 0) (j := 7) (ci := 11) (pc := 85) pfl_X11_157 (by decide) rfl (by decide) (fm_dec dtX11_clause 46 rfl) ?_
      refine pv_iconst (pc := 88) (v := 1) (by decide) (fm_dec dtX11_clause 47 rfl) ?_
      refine pv_iadd (pc := 89) (fm_dec dtX11_clause 48 rfl) ?_
      refine pv_putI (k := 0) (j := 7) (ci := 11) (pc := 90) pfl_X11_157 (by decide) rfl (by decide) (fm_dec dtX11_clause 49 rfl) ?_
      have eS : spClause tx c D a = spLife tx D (sp tW tx a) := (by unfold spClause; rw [ha, hk]; exact if_neg (fun h9 => by rcases h9 with h9 | h9 | h9; exact ne60 h7 hc28 h9; exact ne8 hR.1 hc43 h9.2; exact absurd h9.1 (by decide)))
      exact cl_0 (M0 := M) (q := sp tW tx a) ((hS.set hx80 (sp_le tW_1 hS.2.2.2.1 hS.2.2.1)).of rfl rfl rfl) hf (hR.at0.at0) hD clI.at0 (by have := hD.1; have := ne8 hR.1 hc43; omega) (fun M2 D2 q2 e h => hok M2 D2 q2 (eS.trans e) h) (fun M2 k2 a2 e h => hbad M2 k2 a2 (eS.trans e) h)
set_option maxRecDepth 20000 in
theorem cl5_1 {Q : fmR → fmM → Prop} {M : fmM} {tx : tX} {n a c : Nat} {D : dD} {v2 v3 v4 : Option Value} (ha : sk tx a = a) (hk : dwK (wd tx a) = some 1) (hS : rS M tx n a) (hf : M.1 0 5 = 0) (h7 : (M.1 0 7).toInt = c) (hR : dRep M D) (hD : dOk D) (hok : ∀ (M' : fmM) (D' : dD) (q' : Nat), spClause tx c D a = .inr (D', q') → clOk M M' tx n q' D' → Q (.inl none) M') (hbad : ∀ (M' : fmM) (k a' : Nat), spClause tx c D a = .inl (k, a') → clBad M M' tx n k a' → Q (.inl none) M') : pvEv Tm 5 qX11_clause 5 [some (.ref 0), some (.int 1), v2, v3, v4] [] M Q := by
  refine pv_iloadn (pc := 5) (n := 1) 1 rfl rfl (fm_dec dtX11_clause 3 rfl) ?_
  refine pv_iconst (pc := 6) (v := (-1)) (by decide) (fm_dec dtX11_clause 4 rfl) ?_
  refine pv_icmp_ne (pc := 7) 22 (by decide) (fm_dec dtX11_clause 5 rfl) (fun _ => ?_) (fun hc7 => by exfalso; revert hc7; decide)
  refine pv_aloadn (pc := 22) (n := 0) 0 rfl rfl (fm_dec dtX11_clause 12 rfl) ?_
  refine pv_getI (k := 0) (j := 7) (ci := 11) (pc := 23) pfl_X11_157 (by decide) rfl (by decide) (fm_dec dtX11_clause 13 rfl) ?_
  refine pv_bipush (pc := 26) (v := 60) (by decide) (fm_dec dtX11_clause 14 rfl) ?_
  refine pv_icmp_eq (pc := 28) 62 (by decide) (fm_dec dtX11_clause 15 rfl) (fun hc28 => ?_) (fun hc28 => ?_)
  · refine pv_aloadn (pc := 62) (n := 0) 0 rfl rfl (fm_dec dtX11_clause 33 rfl) ?_
    refine pv_iconst (pc := 63) (v := 3) (by decide) (fm_dec dtX11_clause 34 rfl) ?_
    refine pv_aloadn (pc := 64) (n := 0) 0 rfl rfl (fm_dec dtX11_clause 35 rfl) ?_
    refine pv_getI (k := 0) (j := 4) (ci := 11) (pc := 65) pfl_X11_110 (by decide) rfl (by decide) (fm_dec dtX11_clause 36 rfl) ?_
    refine pv_invV2 (k := 0) (d' := 0) (pc := 68) pcv_X11_130 (by decide) rfl (Nat.le_of_ble_eq_true rfl) (by decide) (fm_dec dtX11_clause 37 rfl) ?_
    refine c_wrongAt (fun _ => ?_) (fun h9 => absurd hf h9) 
    refine pv_then0 ?_
    refine pv_aloadn (pc := 71) (n := 0) 0 rfl rfl (fm_dec dtX11_clause 38 rfl) ?_
    refine pv_getI (k := 0) (j := 5) (ci := 11) (pc := 72) pfl_X11_117 (by decide) rfl (by decide) (fm_dec dtX11_clause 39 rfl) ?_
    refine pv_if_eq (pc := 75) 79 (by decide) (fm_dec dtX11_clause 40 rfl) (fun hc75 => by exfalso; exact absurd (show (3 : Int32) = 0 from hc75) (by decide)) (fun _ => ?_)
    exact pv_return (pc := 78) rfl (fm_dec dtX11_clause 41 rfl) (hbad _ 3 a (by unfold spClause; rw [ha, hk]; exact if_pos (Or.inl (eq60 h7 hc28))) (clBad.of (clFr.refl M) (rdBad.at0 hS (by decide) hS.2.1 (by decide))))
  · refine pv_iloadn (pc := 31) (n := 1) 1 rfl rfl (fm_dec dtX11_clause 16 rfl) ?_
    refine pv_if_ne (pc := 32) 46 (by decide) (fm_dec dtX11_clause 17 rfl) (fun _ => ?_) (fun hc32 => by exfalso; revert hc32; decide)
    refine pv_iloadn (pc := 46) (n := 1) 1 rfl rfl (fm_dec dtX11_clause 24 rfl) ?_
    refine pv_iconst (pc := 47) (v := 1) (by decide) (fm_dec dtX11_clause 25 rfl) ?_
    refine pv_icmp_ne (pc := 48) 71 (by decide) (fm_dec dtX11_clause 26 rfl) (fun hc48 => by exfalso; revert hc48; decide) (fun _ => ?_)
    refine pv_aloadn (pc := 51) (n := 0) 0 rfl rfl (fm_dec dtX11_clause 27 rfl) ?_
    refine pv_getR (k := 0) (j := 11) (ci := 11) (pc := 52) 3 rfl (by decide) pfl_X11_20 (by decide) rfl (by decide) (fm_dec dtX11_clause 28 rfl) ?_
    refine pv_iconst (pc := 55) (v := 1) (by decide) (fm_dec dtX11_clause 29 rfl) ?_
    refine pv_iald (k := 3) (n := 6) (pc := 56) (by decide) rfl rfl (fm_inl (by decide)) (fm_dec dtX11_clause 30 rfl) ?_
    refine pv_bipush (pc := 57) (v := 24) (by decide) (fm_dec dtX11_clause 31 rfl) ?_
    refine pv_icmp_ne (pc := 59) 71 (by decide) (fm_dec dtX11_clause 32 rfl) (fun hc59 => ?_) (fun hc59 => ?_)
    · refine pv_aloadn (pc := 71) (n := 0) 0 rfl rfl (fm_dec dtX11_clause 38 rfl) ?_
      refine pv_getI (k := 0) (j := 5) (ci := 11) (pc := 72) pfl_X11_117 (by decide) rfl (by decide) (fm_dec dtX11_clause 39 rfl) ?_
      refine pv_if_eq (pc := 75) 79 (by decide) (fm_dec dtX11_clause 40 rfl) (fun _ => ?_) (fun hc75 => by exfalso; exact hc75 hf)
      refine pv_aloadn (pc := 79) (n := 0) 0 rfl rfl (fm_dec dtX11_clause 42 rfl) ?_
      refine pv_invV0 (k := 0) (d' := 1) (pc := 80) pcv_X11_154 (by decide) rfl (Nat.le_of_ble_eq_true rfl) (by decide) (fm_dec dtX11_clause 43 rfl) ?_
      refine c_skipWord hS (fun x80 hx80 => ?_)
      refine pv_then0 ?_
      refine pv_aloadn (pc := 83) (n := 0) 0 rfl rfl (fm_dec dtX11_clause 44 rfl) ?_
      refine pv_dup (pc := 84) rfl (fm_dec dtX11_clause 45 rfl) ?_
      refine pv_getI (k := 0) (j := 7) (ci := 11) (pc := 85) pfl_X11_157 (by decide) rfl (by decide) (fm_dec dtX11_clause 46 rfl) ?_
      refine pv_iconst (pc := 88) (v := 1) (by decide) (fm_dec dtX11_clause 47 rfl) ?_
      refine pv_iadd (pc := 89) (fm_dec dtX11_clause 48 rfl) ?_
      refine pv_putI (k := 0) (j := 7) (ci := 11) (pc := 90) pfl_X11_157 (by decide) rfl (by decide) (fm_dec dtX11_clause 49 rfl) ?_
      have eS : spClause tx c D a = spFact tx D (sp tW tx a) := (by unfold spClause; rw [ha, hk]; exact if_neg (fun h9 => by rcases h9 with h9 | h9 | h9; exact ne60 h7 hc28 h9; exact absurd h9.1 (by decide); exact ne24 hR.2.1 hc59 h9.2))
      exact cl_1 (M0 := M) (q := sp tW tx a) ((hS.set hx80 (sp_le tW_1 hS.2.2.2.1 hS.2.2.1)).of rfl rfl rfl) hf (hR.at0.at0) hD clI.at0 (by have := hD.2.1; have := ne24 hR.2.1 hc59; omega) (fun M2 D2 q2 e h => hok M2 D2 q2 (eS.trans e) h) (fun M2 k2 a2 e h => hbad M2 k2 a2 (eS.trans e) h)
    · refine pv_aloadn (pc := 62) (n := 0) 0 rfl rfl (fm_dec dtX11_clause 33 rfl) ?_
      refine pv_iconst (pc := 63) (v := 3) (by decide) (fm_dec dtX11_clause 34 rfl) ?_
      refine pv_aloadn (pc := 64) (n := 0) 0 rfl rfl (fm_dec dtX11_clause 35 rfl) ?_
      refine pv_getI (k := 0) (j := 4) (ci := 11) (pc := 65) pfl_X11_110 (by decide) rfl (by decide) (fm_dec dtX11_clause 36 rfl) ?_
      refine pv_invV2 (k := 0) (d' := 0) (pc := 68) pcv_X11_130 (by decide) rfl (Nat.le_of_ble_eq_true rfl) (by decide) (fm_dec dtX11_clause 37 rfl) ?_
      refine c_wrongAt (fun _ => ?_) (fun h9 => absurd hf h9) 
      refine pv_then0 ?_
      refine pv_aloadn (pc := 71) (n := 0) 0 rfl rfl (fm_dec dtX11_clause 38 rfl) ?_
      refine pv_getI (k := 0) (j := 5) (ci := 11) (pc := 72) pfl_X11_117 (by decide) rfl (by decide) (fm_dec dtX11_clause 39 rfl) ?_
      refine pv_if_eq (pc := 75) 79 (by decide) (fm_dec dtX11_clause 40 rfl) (fun hc75 => by exfalso; exact absurd (show (3 : Int32) = 0 from hc75) (by decide)) (fun _ => ?_)
      exact pv_return (pc := 78) rfl (fm_dec dtX11_clause 41 rfl) (hbad _ 3 a (by unfold spClause; rw [ha, hk]; exact if_pos (Or.inr (Or.inr ⟨rfl, eq24 hR.2.1 hc59⟩))) (clBad.of (clFr.refl M) (rdBad.at0 hS (by decide) hS.2.1 (by decide))))
set_option maxRecDepth 20000 in
theorem cl5_2 {Q : fmR → fmM → Prop} {M : fmM} {tx : tX} {n a c : Nat} {D : dD} {v2 v3 v4 : Option Value} (ha : sk tx a = a) (hk : dwK (wd tx a) = some 2) (hS : rS M tx n a) (hf : M.1 0 5 = 0) (h7 : (M.1 0 7).toInt = c) (hR : dRep M D) (hD : dOk D) (hok : ∀ (M' : fmM) (D' : dD) (q' : Nat), spClause tx c D a = .inr (D', q') → clOk M M' tx n q' D' → Q (.inl none) M') (hbad : ∀ (M' : fmM) (k a' : Nat), spClause tx c D a = .inl (k, a') → clBad M M' tx n k a' → Q (.inl none) M') : pvEv Tm 5 qX11_clause 5 [some (.ref 0), some (.int 2), v2, v3, v4] [] M Q := by
  refine pv_iloadn (pc := 5) (n := 1) 1 rfl rfl (fm_dec dtX11_clause 3 rfl) ?_
  refine pv_iconst (pc := 6) (v := (-1)) (by decide) (fm_dec dtX11_clause 4 rfl) ?_
  refine pv_icmp_ne (pc := 7) 22 (by decide) (fm_dec dtX11_clause 5 rfl) (fun _ => ?_) (fun hc7 => by exfalso; revert hc7; decide)
  refine pv_aloadn (pc := 22) (n := 0) 0 rfl rfl (fm_dec dtX11_clause 12 rfl) ?_
  refine pv_getI (k := 0) (j := 7) (ci := 11) (pc := 23) pfl_X11_157 (by decide) rfl (by decide) (fm_dec dtX11_clause 13 rfl) ?_
  refine pv_bipush (pc := 26) (v := 60) (by decide) (fm_dec dtX11_clause 14 rfl) ?_
  refine pv_icmp_eq (pc := 28) 62 (by decide) (fm_dec dtX11_clause 15 rfl) (fun hc28 => ?_) (fun hc28 => ?_)
  · refine pv_aloadn (pc := 62) (n := 0) 0 rfl rfl (fm_dec dtX11_clause 33 rfl) ?_
    refine pv_iconst (pc := 63) (v := 3) (by decide) (fm_dec dtX11_clause 34 rfl) ?_
    refine pv_aloadn (pc := 64) (n := 0) 0 rfl rfl (fm_dec dtX11_clause 35 rfl) ?_
    refine pv_getI (k := 0) (j := 4) (ci := 11) (pc := 65) pfl_X11_110 (by decide) rfl (by decide) (fm_dec dtX11_clause 36 rfl) ?_
    refine pv_invV2 (k := 0) (d' := 0) (pc := 68) pcv_X11_130 (by decide) rfl (Nat.le_of_ble_eq_true rfl) (by decide) (fm_dec dtX11_clause 37 rfl) ?_
    refine c_wrongAt (fun _ => ?_) (fun h9 => absurd hf h9) 
    refine pv_then0 ?_
    refine pv_aloadn (pc := 71) (n := 0) 0 rfl rfl (fm_dec dtX11_clause 38 rfl) ?_
    refine pv_getI (k := 0) (j := 5) (ci := 11) (pc := 72) pfl_X11_117 (by decide) rfl (by decide) (fm_dec dtX11_clause 39 rfl) ?_
    refine pv_if_eq (pc := 75) 79 (by decide) (fm_dec dtX11_clause 40 rfl) (fun hc75 => by exfalso; exact absurd (show (3 : Int32) = 0 from hc75) (by decide)) (fun _ => ?_)
    exact pv_return (pc := 78) rfl (fm_dec dtX11_clause 41 rfl) (hbad _ 3 a (by unfold spClause; rw [ha, hk]; exact if_pos (Or.inl (eq60 h7 hc28))) (clBad.of (clFr.refl M) (rdBad.at0 hS (by decide) hS.2.1 (by decide))))
  · refine pv_iloadn (pc := 31) (n := 1) 1 rfl rfl (fm_dec dtX11_clause 16 rfl) ?_
    refine pv_if_ne (pc := 32) 46 (by decide) (fm_dec dtX11_clause 17 rfl) (fun _ => ?_) (fun hc32 => by exfalso; revert hc32; decide)
    refine pv_iloadn (pc := 46) (n := 1) 1 rfl rfl (fm_dec dtX11_clause 24 rfl) ?_
    refine pv_iconst (pc := 47) (v := 1) (by decide) (fm_dec dtX11_clause 25 rfl) ?_
    refine pv_icmp_ne (pc := 48) 71 (by decide) (fm_dec dtX11_clause 26 rfl) (fun _ => ?_) (fun hc48 => by exfalso; revert hc48; decide)
    refine pv_aloadn (pc := 71) (n := 0) 0 rfl rfl (fm_dec dtX11_clause 38 rfl) ?_
    refine pv_getI (k := 0) (j := 5) (ci := 11) (pc := 72) pfl_X11_117 (by decide) rfl (by decide) (fm_dec dtX11_clause 39 rfl) ?_
    refine pv_if_eq (pc := 75) 79 (by decide) (fm_dec dtX11_clause 40 rfl) (fun _ => ?_) (fun hc75 => by exfalso; exact hc75 hf)
    refine pv_aloadn (pc := 79) (n := 0) 0 rfl rfl (fm_dec dtX11_clause 42 rfl) ?_
    refine pv_invV0 (k := 0) (d' := 1) (pc := 80) pcv_X11_154 (by decide) rfl (Nat.le_of_ble_eq_true rfl) (by decide) (fm_dec dtX11_clause 43 rfl) ?_
    refine c_skipWord hS (fun x80 hx80 => ?_)
    refine pv_then0 ?_
    refine pv_aloadn (pc := 83) (n := 0) 0 rfl rfl (fm_dec dtX11_clause 44 rfl) ?_
    refine pv_dup (pc := 84) rfl (fm_dec dtX11_clause 45 rfl) ?_
    refine pv_getI (k := 0) (j := 7) (ci := 11) (pc := 85) pfl_X11_157 (by decide) rfl (by decide) (fm_dec dtX11_clause 46 rfl) ?_
    refine pv_iconst (pc := 88) (v := 1) (by decide) (fm_dec dtX11_clause 47 rfl) ?_
    refine pv_iadd (pc := 89) (fm_dec dtX11_clause 48 rfl) ?_
    refine pv_putI (k := 0) (j := 7) (ci := 11) (pc := 90) pfl_X11_157 (by decide) rfl (by decide) (fm_dec dtX11_clause 49 rfl) ?_
    have eS : spClause tx c D a = spRule tx D 2 (sp tW tx a) := (by unfold spClause; rw [ha, hk]; exact if_neg (fun h9 => by rcases h9 with h9 | h9 | h9; exact ne60 h7 hc28 h9; exact absurd h9.1 (by decide); exact absurd h9.1 (by decide)))
    exact cl_2 (M0 := M) (q := sp tW tx a) ((hS.set hx80 (sp_le tW_1 hS.2.2.2.1 hS.2.2.1)).of rfl rfl rfl) hf (hR.at0.at0) hD clI.at0 (fun M2 D2 q2 e h => hok M2 D2 q2 (eS.trans e) h) (fun M2 k2 a2 e h => hbad M2 k2 a2 (eS.trans e) h)
set_option maxRecDepth 20000 in
theorem cl5_3 {Q : fmR → fmM → Prop} {M : fmM} {tx : tX} {n a c : Nat} {D : dD} {v2 v3 v4 : Option Value} (ha : sk tx a = a) (hk : dwK (wd tx a) = some 3) (hS : rS M tx n a) (hf : M.1 0 5 = 0) (h7 : (M.1 0 7).toInt = c) (hR : dRep M D) (hD : dOk D) (hok : ∀ (M' : fmM) (D' : dD) (q' : Nat), spClause tx c D a = .inr (D', q') → clOk M M' tx n q' D' → Q (.inl none) M') (hbad : ∀ (M' : fmM) (k a' : Nat), spClause tx c D a = .inl (k, a') → clBad M M' tx n k a' → Q (.inl none) M') : pvEv Tm 5 qX11_clause 5 [some (.ref 0), some (.int 3), v2, v3, v4] [] M Q := by
  refine pv_iloadn (pc := 5) (n := 1) 1 rfl rfl (fm_dec dtX11_clause 3 rfl) ?_
  refine pv_iconst (pc := 6) (v := (-1)) (by decide) (fm_dec dtX11_clause 4 rfl) ?_
  refine pv_icmp_ne (pc := 7) 22 (by decide) (fm_dec dtX11_clause 5 rfl) (fun _ => ?_) (fun hc7 => by exfalso; revert hc7; decide)
  refine pv_aloadn (pc := 22) (n := 0) 0 rfl rfl (fm_dec dtX11_clause 12 rfl) ?_
  refine pv_getI (k := 0) (j := 7) (ci := 11) (pc := 23) pfl_X11_157 (by decide) rfl (by decide) (fm_dec dtX11_clause 13 rfl) ?_
  refine pv_bipush (pc := 26) (v := 60) (by decide) (fm_dec dtX11_clause 14 rfl) ?_
  refine pv_icmp_eq (pc := 28) 62 (by decide) (fm_dec dtX11_clause 15 rfl) (fun hc28 => ?_) (fun hc28 => ?_)
  · refine pv_aloadn (pc := 62) (n := 0) 0 rfl rfl (fm_dec dtX11_clause 33 rfl) ?_
    refine pv_iconst (pc := 63) (v := 3) (by decide) (fm_dec dtX11_clause 34 rfl) ?_
    refine pv_aloadn (pc := 64) (n := 0) 0 rfl rfl (fm_dec dtX11_clause 35 rfl) ?_
    refine pv_getI (k := 0) (j := 4) (ci := 11) (pc := 65) pfl_X11_110 (by decide) rfl (by decide) (fm_dec dtX11_clause 36 rfl) ?_
    refine pv_invV2 (k := 0) (d' := 0) (pc := 68) pcv_X11_130 (by decide) rfl (Nat.le_of_ble_eq_true rfl) (by decide) (fm_dec dtX11_clause 37 rfl) ?_
    refine c_wrongAt (fun _ => ?_) (fun h9 => absurd hf h9) 
    refine pv_then0 ?_
    refine pv_aloadn (pc := 71) (n := 0) 0 rfl rfl (fm_dec dtX11_clause 38 rfl) ?_
    refine pv_getI (k := 0) (j := 5) (ci := 11) (pc := 72) pfl_X11_117 (by decide) rfl (by decide) (fm_dec dtX11_clause 39 rfl) ?_
    refine pv_if_eq (pc := 75) 79 (by decide) (fm_dec dtX11_clause 40 rfl) (fun hc75 => by exfalso; exact absurd (show (3 : Int32) = 0 from hc75) (by decide)) (fun _ => ?_)
    exact pv_return (pc := 78) rfl (fm_dec dtX11_clause 41 rfl) (hbad _ 3 a (by unfold spClause; rw [ha, hk]; exact if_pos (Or.inl (eq60 h7 hc28))) (clBad.of (clFr.refl M) (rdBad.at0 hS (by decide) hS.2.1 (by decide))))
  · refine pv_iloadn (pc := 31) (n := 1) 1 rfl rfl (fm_dec dtX11_clause 16 rfl) ?_
    refine pv_if_ne (pc := 32) 46 (by decide) (fm_dec dtX11_clause 17 rfl) (fun _ => ?_) (fun hc32 => by exfalso; revert hc32; decide)
    refine pv_iloadn (pc := 46) (n := 1) 1 rfl rfl (fm_dec dtX11_clause 24 rfl) ?_
    refine pv_iconst (pc := 47) (v := 1) (by decide) (fm_dec dtX11_clause 25 rfl) ?_
    refine pv_icmp_ne (pc := 48) 71 (by decide) (fm_dec dtX11_clause 26 rfl) (fun _ => ?_) (fun hc48 => by exfalso; revert hc48; decide)
    refine pv_aloadn (pc := 71) (n := 0) 0 rfl rfl (fm_dec dtX11_clause 38 rfl) ?_
    refine pv_getI (k := 0) (j := 5) (ci := 11) (pc := 72) pfl_X11_117 (by decide) rfl (by decide) (fm_dec dtX11_clause 39 rfl) ?_
    refine pv_if_eq (pc := 75) 79 (by decide) (fm_dec dtX11_clause 40 rfl) (fun _ => ?_) (fun hc75 => by exfalso; exact hc75 hf)
    refine pv_aloadn (pc := 79) (n := 0) 0 rfl rfl (fm_dec dtX11_clause 42 rfl) ?_
    refine pv_invV0 (k := 0) (d' := 1) (pc := 80) pcv_X11_154 (by decide) rfl (Nat.le_of_ble_eq_true rfl) (by decide) (fm_dec dtX11_clause 43 rfl) ?_
    refine c_skipWord hS (fun x80 hx80 => ?_)
    refine pv_then0 ?_
    refine pv_aloadn (pc := 83) (n := 0) 0 rfl rfl (fm_dec dtX11_clause 44 rfl) ?_
    refine pv_dup (pc := 84) rfl (fm_dec dtX11_clause 45 rfl) ?_
    refine pv_getI (k := 0) (j := 7) (ci := 11) (pc := 85) pfl_X11_157 (by decide) rfl (by decide) (fm_dec dtX11_clause 46 rfl) ?_
    refine pv_iconst (pc := 88) (v := 1) (by decide) (fm_dec dtX11_clause 47 rfl) ?_
    refine pv_iadd (pc := 89) (fm_dec dtX11_clause 48 rfl) ?_
    refine pv_putI (k := 0) (j := 7) (ci := 11) (pc := 90) pfl_X11_157 (by decide) rfl (by decide) (fm_dec dtX11_clause 49 rfl) ?_
    have eS : spClause tx c D a = spRule tx D 3 (sp tW tx a) := (by unfold spClause; rw [ha, hk]; exact if_neg (fun h9 => by rcases h9 with h9 | h9 | h9; exact ne60 h7 hc28 h9; exact absurd h9.1 (by decide); exact absurd h9.1 (by decide)))
    exact cl_3 (M0 := M) (q := sp tW tx a) ((hS.set hx80 (sp_le tW_1 hS.2.2.2.1 hS.2.2.1)).of rfl rfl rfl) hf (hR.at0.at0) hD clI.at0 (fun M2 D2 q2 e h => hok M2 D2 q2 (eS.trans e) h) (fun M2 k2 a2 e h => hbad M2 k2 a2 (eS.trans e) h)
set_option maxRecDepth 20000 in
theorem cl5_4 {Q : fmR → fmM → Prop} {M : fmM} {tx : tX} {n a c : Nat} {D : dD} {v2 v3 v4 : Option Value} (ha : sk tx a = a) (hk : dwK (wd tx a) = some 4) (hS : rS M tx n a) (hf : M.1 0 5 = 0) (h7 : (M.1 0 7).toInt = c) (hR : dRep M D) (hD : dOk D) (hok : ∀ (M' : fmM) (D' : dD) (q' : Nat), spClause tx c D a = .inr (D', q') → clOk M M' tx n q' D' → Q (.inl none) M') (hbad : ∀ (M' : fmM) (k a' : Nat), spClause tx c D a = .inl (k, a') → clBad M M' tx n k a' → Q (.inl none) M') : pvEv Tm 5 qX11_clause 5 [some (.ref 0), some (.int 4), v2, v3, v4] [] M Q := by
  refine pv_iloadn (pc := 5) (n := 1) 1 rfl rfl (fm_dec dtX11_clause 3 rfl) ?_
  refine pv_iconst (pc := 6) (v := (-1)) (by decide) (fm_dec dtX11_clause 4 rfl) ?_
  refine pv_icmp_ne (pc := 7) 22 (by decide) (fm_dec dtX11_clause 5 rfl) (fun _ => ?_) (fun hc7 => by exfalso; revert hc7; decide)
  refine pv_aloadn (pc := 22) (n := 0) 0 rfl rfl (fm_dec dtX11_clause 12 rfl) ?_
  refine pv_getI (k := 0) (j := 7) (ci := 11) (pc := 23) pfl_X11_157 (by decide) rfl (by decide) (fm_dec dtX11_clause 13 rfl) ?_
  refine pv_bipush (pc := 26) (v := 60) (by decide) (fm_dec dtX11_clause 14 rfl) ?_
  refine pv_icmp_eq (pc := 28) 62 (by decide) (fm_dec dtX11_clause 15 rfl) (fun hc28 => ?_) (fun hc28 => ?_)
  · refine pv_aloadn (pc := 62) (n := 0) 0 rfl rfl (fm_dec dtX11_clause 33 rfl) ?_
    refine pv_iconst (pc := 63) (v := 3) (by decide) (fm_dec dtX11_clause 34 rfl) ?_
    refine pv_aloadn (pc := 64) (n := 0) 0 rfl rfl (fm_dec dtX11_clause 35 rfl) ?_
    refine pv_getI (k := 0) (j := 4) (ci := 11) (pc := 65) pfl_X11_110 (by decide) rfl (by decide) (fm_dec dtX11_clause 36 rfl) ?_
    refine pv_invV2 (k := 0) (d' := 0) (pc := 68) pcv_X11_130 (by decide) rfl (Nat.le_of_ble_eq_true rfl) (by decide) (fm_dec dtX11_clause 37 rfl) ?_
    refine c_wrongAt (fun _ => ?_) (fun h9 => absurd hf h9) 
    refine pv_then0 ?_
    refine pv_aloadn (pc := 71) (n := 0) 0 rfl rfl (fm_dec dtX11_clause 38 rfl) ?_
    refine pv_getI (k := 0) (j := 5) (ci := 11) (pc := 72) pfl_X11_117 (by decide) rfl (by decide) (fm_dec dtX11_clause 39 rfl) ?_
    refine pv_if_eq (pc := 75) 79 (by decide) (fm_dec dtX11_clause 40 rfl) (fun hc75 => by exfalso; exact absurd (show (3 : Int32) = 0 from hc75) (by decide)) (fun _ => ?_)
    exact pv_return (pc := 78) rfl (fm_dec dtX11_clause 41 rfl) (hbad _ 3 a (by unfold spClause; rw [ha, hk]; exact if_pos (Or.inl (eq60 h7 hc28))) (clBad.of (clFr.refl M) (rdBad.at0 hS (by decide) hS.2.1 (by decide))))
  · refine pv_iloadn (pc := 31) (n := 1) 1 rfl rfl (fm_dec dtX11_clause 16 rfl) ?_
    refine pv_if_ne (pc := 32) 46 (by decide) (fm_dec dtX11_clause 17 rfl) (fun _ => ?_) (fun hc32 => by exfalso; revert hc32; decide)
    refine pv_iloadn (pc := 46) (n := 1) 1 rfl rfl (fm_dec dtX11_clause 24 rfl) ?_
    refine pv_iconst (pc := 47) (v := 1) (by decide) (fm_dec dtX11_clause 25 rfl) ?_
    refine pv_icmp_ne (pc := 48) 71 (by decide) (fm_dec dtX11_clause 26 rfl) (fun _ => ?_) (fun hc48 => by exfalso; revert hc48; decide)
    refine pv_aloadn (pc := 71) (n := 0) 0 rfl rfl (fm_dec dtX11_clause 38 rfl) ?_
    refine pv_getI (k := 0) (j := 5) (ci := 11) (pc := 72) pfl_X11_117 (by decide) rfl (by decide) (fm_dec dtX11_clause 39 rfl) ?_
    refine pv_if_eq (pc := 75) 79 (by decide) (fm_dec dtX11_clause 40 rfl) (fun _ => ?_) (fun hc75 => by exfalso; exact hc75 hf)
    refine pv_aloadn (pc := 79) (n := 0) 0 rfl rfl (fm_dec dtX11_clause 42 rfl) ?_
    refine pv_invV0 (k := 0) (d' := 1) (pc := 80) pcv_X11_154 (by decide) rfl (Nat.le_of_ble_eq_true rfl) (by decide) (fm_dec dtX11_clause 43 rfl) ?_
    refine c_skipWord hS (fun x80 hx80 => ?_)
    refine pv_then0 ?_
    refine pv_aloadn (pc := 83) (n := 0) 0 rfl rfl (fm_dec dtX11_clause 44 rfl) ?_
    refine pv_dup (pc := 84) rfl (fm_dec dtX11_clause 45 rfl) ?_
    refine pv_getI (k := 0) (j := 7) (ci := 11) (pc := 85) pfl_X11_157 (by decide) rfl (by decide) (fm_dec dtX11_clause 46 rfl) ?_
    refine pv_iconst (pc := 88) (v := 1) (by decide) (fm_dec dtX11_clause 47 rfl) ?_
    refine pv_iadd (pc := 89) (fm_dec dtX11_clause 48 rfl) ?_
    refine pv_putI (k := 0) (j := 7) (ci := 11) (pc := 90) pfl_X11_157 (by decide) rfl (by decide) (fm_dec dtX11_clause 49 rfl) ?_
    have eS : spClause tx c D a = spRule tx D 4 (sp tW tx a) := (by unfold spClause; rw [ha, hk]; exact if_neg (fun h9 => by rcases h9 with h9 | h9 | h9; exact ne60 h7 hc28 h9; exact absurd h9.1 (by decide); exact absurd h9.1 (by decide)))
    exact cl_4 (M0 := M) (q := sp tW tx a) ((hS.set hx80 (sp_le tW_1 hS.2.2.2.1 hS.2.2.1)).of rfl rfl rfl) hf (hR.at0.at0) hD clI.at0 (fun M2 D2 q2 e h => hok M2 D2 q2 (eS.trans e) h) (fun M2 k2 a2 e h => hbad M2 k2 a2 (eS.trans e) h)
set_option maxRecDepth 20000 in
theorem cl5_5 {Q : fmR → fmM → Prop} {M : fmM} {tx : tX} {n a c : Nat} {D : dD} {v2 v3 v4 : Option Value} (ha : sk tx a = a) (hk : dwK (wd tx a) = some 5) (hS : rS M tx n a) (hf : M.1 0 5 = 0) (h7 : (M.1 0 7).toInt = c) (hR : dRep M D) (hD : dOk D) (hok : ∀ (M' : fmM) (D' : dD) (q' : Nat), spClause tx c D a = .inr (D', q') → clOk M M' tx n q' D' → Q (.inl none) M') (hbad : ∀ (M' : fmM) (k a' : Nat), spClause tx c D a = .inl (k, a') → clBad M M' tx n k a' → Q (.inl none) M') : pvEv Tm 5 qX11_clause 5 [some (.ref 0), some (.int 5), v2, v3, v4] [] M Q := by
  refine pv_iloadn (pc := 5) (n := 1) 1 rfl rfl (fm_dec dtX11_clause 3 rfl) ?_
  refine pv_iconst (pc := 6) (v := (-1)) (by decide) (fm_dec dtX11_clause 4 rfl) ?_
  refine pv_icmp_ne (pc := 7) 22 (by decide) (fm_dec dtX11_clause 5 rfl) (fun _ => ?_) (fun hc7 => by exfalso; revert hc7; decide)
  refine pv_aloadn (pc := 22) (n := 0) 0 rfl rfl (fm_dec dtX11_clause 12 rfl) ?_
  refine pv_getI (k := 0) (j := 7) (ci := 11) (pc := 23) pfl_X11_157 (by decide) rfl (by decide) (fm_dec dtX11_clause 13 rfl) ?_
  refine pv_bipush (pc := 26) (v := 60) (by decide) (fm_dec dtX11_clause 14 rfl) ?_
  refine pv_icmp_eq (pc := 28) 62 (by decide) (fm_dec dtX11_clause 15 rfl) (fun hc28 => ?_) (fun hc28 => ?_)
  · refine pv_aloadn (pc := 62) (n := 0) 0 rfl rfl (fm_dec dtX11_clause 33 rfl) ?_
    refine pv_iconst (pc := 63) (v := 3) (by decide) (fm_dec dtX11_clause 34 rfl) ?_
    refine pv_aloadn (pc := 64) (n := 0) 0 rfl rfl (fm_dec dtX11_clause 35 rfl) ?_
    refine pv_getI (k := 0) (j := 4) (ci := 11) (pc := 65) pfl_X11_110 (by decide) rfl (by decide) (fm_dec dtX11_clause 36 rfl) ?_
    refine pv_invV2 (k := 0) (d' := 0) (pc := 68) pcv_X11_130 (by decide) rfl (Nat.le_of_ble_eq_true rfl) (by decide) (fm_dec dtX11_clause 37 rfl) ?_
    refine c_wrongAt (fun _ => ?_) (fun h9 => absurd hf h9) 
    refine pv_then0 ?_
    refine pv_aloadn (pc := 71) (n := 0) 0 rfl rfl (fm_dec dtX11_clause 38 rfl) ?_
    refine pv_getI (k := 0) (j := 5) (ci := 11) (pc := 72) pfl_X11_117 (by decide) rfl (by decide) (fm_dec dtX11_clause 39 rfl) ?_
    refine pv_if_eq (pc := 75) 79 (by decide) (fm_dec dtX11_clause 40 rfl) (fun hc75 => by exfalso; exact absurd (show (3 : Int32) = 0 from hc75) (by decide)) (fun _ => ?_)
    exact pv_return (pc := 78) rfl (fm_dec dtX11_clause 41 rfl) (hbad _ 3 a (by unfold spClause; rw [ha, hk]; exact if_pos (Or.inl (eq60 h7 hc28))) (clBad.of (clFr.refl M) (rdBad.at0 hS (by decide) hS.2.1 (by decide))))
  · refine pv_iloadn (pc := 31) (n := 1) 1 rfl rfl (fm_dec dtX11_clause 16 rfl) ?_
    refine pv_if_ne (pc := 32) 46 (by decide) (fm_dec dtX11_clause 17 rfl) (fun _ => ?_) (fun hc32 => by exfalso; revert hc32; decide)
    refine pv_iloadn (pc := 46) (n := 1) 1 rfl rfl (fm_dec dtX11_clause 24 rfl) ?_
    refine pv_iconst (pc := 47) (v := 1) (by decide) (fm_dec dtX11_clause 25 rfl) ?_
    refine pv_icmp_ne (pc := 48) 71 (by decide) (fm_dec dtX11_clause 26 rfl) (fun _ => ?_) (fun hc48 => by exfalso; revert hc48; decide)
    refine pv_aloadn (pc := 71) (n := 0) 0 rfl rfl (fm_dec dtX11_clause 38 rfl) ?_
    refine pv_getI (k := 0) (j := 5) (ci := 11) (pc := 72) pfl_X11_117 (by decide) rfl (by decide) (fm_dec dtX11_clause 39 rfl) ?_
    refine pv_if_eq (pc := 75) 79 (by decide) (fm_dec dtX11_clause 40 rfl) (fun _ => ?_) (fun hc75 => by exfalso; exact hc75 hf)
    refine pv_aloadn (pc := 79) (n := 0) 0 rfl rfl (fm_dec dtX11_clause 42 rfl) ?_
    refine pv_invV0 (k := 0) (d' := 1) (pc := 80) pcv_X11_154 (by decide) rfl (Nat.le_of_ble_eq_true rfl) (by decide) (fm_dec dtX11_clause 43 rfl) ?_
    refine c_skipWord hS (fun x80 hx80 => ?_)
    refine pv_then0 ?_
    refine pv_aloadn (pc := 83) (n := 0) 0 rfl rfl (fm_dec dtX11_clause 44 rfl) ?_
    refine pv_dup (pc := 84) rfl (fm_dec dtX11_clause 45 rfl) ?_
    refine pv_getI (k := 0) (j := 7) (ci := 11) (pc := 85) pfl_X11_157 (by decide) rfl (by decide) (fm_dec dtX11_clause 46 rfl) ?_
    refine pv_iconst (pc := 88) (v := 1) (by decide) (fm_dec dtX11_clause 47 rfl) ?_
    refine pv_iadd (pc := 89) (fm_dec dtX11_clause 48 rfl) ?_
    refine pv_putI (k := 0) (j := 7) (ci := 11) (pc := 90) pfl_X11_157 (by decide) rfl (by decide) (fm_dec dtX11_clause 49 rfl) ?_
    have eS : spClause tx c D a = spRule tx D 5 (sp tW tx a) := (by unfold spClause; rw [ha, hk]; exact if_neg (fun h9 => by rcases h9 with h9 | h9 | h9; exact ne60 h7 hc28 h9; exact absurd h9.1 (by decide); exact absurd h9.1 (by decide)))
    exact cl_5 (M0 := M) (q := sp tW tx a) ((hS.set hx80 (sp_le tW_1 hS.2.2.2.1 hS.2.2.1)).of rfl rfl rfl) hf (hR.at0.at0) hD clI.at0 (fun M2 D2 q2 e h => hok M2 D2 q2 (eS.trans e) h) (fun M2 k2 a2 e h => hbad M2 k2 a2 (eS.trans e) h)
set_option maxRecDepth 20000 in
theorem cl5_6 {Q : fmR → fmM → Prop} {M : fmM} {tx : tX} {n a c : Nat} {D : dD} {v2 v3 v4 : Option Value} (ha : sk tx a = a) (hk : dwK (wd tx a) = some 6) (hS : rS M tx n a) (hf : M.1 0 5 = 0) (h7 : (M.1 0 7).toInt = c) (hR : dRep M D) (hD : dOk D) (hok : ∀ (M' : fmM) (D' : dD) (q' : Nat), spClause tx c D a = .inr (D', q') → clOk M M' tx n q' D' → Q (.inl none) M') (hbad : ∀ (M' : fmM) (k a' : Nat), spClause tx c D a = .inl (k, a') → clBad M M' tx n k a' → Q (.inl none) M') : pvEv Tm 5 qX11_clause 5 [some (.ref 0), some (.int 6), v2, v3, v4] [] M Q := by
  refine pv_iloadn (pc := 5) (n := 1) 1 rfl rfl (fm_dec dtX11_clause 3 rfl) ?_
  refine pv_iconst (pc := 6) (v := (-1)) (by decide) (fm_dec dtX11_clause 4 rfl) ?_
  refine pv_icmp_ne (pc := 7) 22 (by decide) (fm_dec dtX11_clause 5 rfl) (fun _ => ?_) (fun hc7 => by exfalso; revert hc7; decide)
  refine pv_aloadn (pc := 22) (n := 0) 0 rfl rfl (fm_dec dtX11_clause 12 rfl) ?_
  refine pv_getI (k := 0) (j := 7) (ci := 11) (pc := 23) pfl_X11_157 (by decide) rfl (by decide) (fm_dec dtX11_clause 13 rfl) ?_
  refine pv_bipush (pc := 26) (v := 60) (by decide) (fm_dec dtX11_clause 14 rfl) ?_
  refine pv_icmp_eq (pc := 28) 62 (by decide) (fm_dec dtX11_clause 15 rfl) (fun hc28 => ?_) (fun hc28 => ?_)
  · refine pv_aloadn (pc := 62) (n := 0) 0 rfl rfl (fm_dec dtX11_clause 33 rfl) ?_
    refine pv_iconst (pc := 63) (v := 3) (by decide) (fm_dec dtX11_clause 34 rfl) ?_
    refine pv_aloadn (pc := 64) (n := 0) 0 rfl rfl (fm_dec dtX11_clause 35 rfl) ?_
    refine pv_getI (k := 0) (j := 4) (ci := 11) (pc := 65) pfl_X11_110 (by decide) rfl (by decide) (fm_dec dtX11_clause 36 rfl) ?_
    refine pv_invV2 (k := 0) (d' := 0) (pc := 68) pcv_X11_130 (by decide) rfl (Nat.le_of_ble_eq_true rfl) (by decide) (fm_dec dtX11_clause 37 rfl) ?_
    refine c_wrongAt (fun _ => ?_) (fun h9 => absurd hf h9) 
    refine pv_then0 ?_
    refine pv_aloadn (pc := 71) (n := 0) 0 rfl rfl (fm_dec dtX11_clause 38 rfl) ?_
    refine pv_getI (k := 0) (j := 5) (ci := 11) (pc := 72) pfl_X11_117 (by decide) rfl (by decide) (fm_dec dtX11_clause 39 rfl) ?_
    refine pv_if_eq (pc := 75) 79 (by decide) (fm_dec dtX11_clause 40 rfl) (fun hc75 => by exfalso; exact absurd (show (3 : Int32) = 0 from hc75) (by decide)) (fun _ => ?_)
    exact pv_return (pc := 78) rfl (fm_dec dtX11_clause 41 rfl) (hbad _ 3 a (by unfold spClause; rw [ha, hk]; exact if_pos (Or.inl (eq60 h7 hc28))) (clBad.of (clFr.refl M) (rdBad.at0 hS (by decide) hS.2.1 (by decide))))
  · refine pv_iloadn (pc := 31) (n := 1) 1 rfl rfl (fm_dec dtX11_clause 16 rfl) ?_
    refine pv_if_ne (pc := 32) 46 (by decide) (fm_dec dtX11_clause 17 rfl) (fun _ => ?_) (fun hc32 => by exfalso; revert hc32; decide)
    refine pv_iloadn (pc := 46) (n := 1) 1 rfl rfl (fm_dec dtX11_clause 24 rfl) ?_
    refine pv_iconst (pc := 47) (v := 1) (by decide) (fm_dec dtX11_clause 25 rfl) ?_
    refine pv_icmp_ne (pc := 48) 71 (by decide) (fm_dec dtX11_clause 26 rfl) (fun _ => ?_) (fun hc48 => by exfalso; revert hc48; decide)
    refine pv_aloadn (pc := 71) (n := 0) 0 rfl rfl (fm_dec dtX11_clause 38 rfl) ?_
    refine pv_getI (k := 0) (j := 5) (ci := 11) (pc := 72) pfl_X11_117 (by decide) rfl (by decide) (fm_dec dtX11_clause 39 rfl) ?_
    refine pv_if_eq (pc := 75) 79 (by decide) (fm_dec dtX11_clause 40 rfl) (fun _ => ?_) (fun hc75 => by exfalso; exact hc75 hf)
    refine pv_aloadn (pc := 79) (n := 0) 0 rfl rfl (fm_dec dtX11_clause 42 rfl) ?_
    refine pv_invV0 (k := 0) (d' := 1) (pc := 80) pcv_X11_154 (by decide) rfl (Nat.le_of_ble_eq_true rfl) (by decide) (fm_dec dtX11_clause 43 rfl) ?_
    refine c_skipWord hS (fun x80 hx80 => ?_)
    refine pv_then0 ?_
    refine pv_aloadn (pc := 83) (n := 0) 0 rfl rfl (fm_dec dtX11_clause 44 rfl) ?_
    refine pv_dup (pc := 84) rfl (fm_dec dtX11_clause 45 rfl) ?_
    refine pv_getI (k := 0) (j := 7) (ci := 11) (pc := 85) pfl_X11_157 (by decide) rfl (by decide) (fm_dec dtX11_clause 46 rfl) ?_
    refine pv_iconst (pc := 88) (v := 1) (by decide) (fm_dec dtX11_clause 47 rfl) ?_
    refine pv_iadd (pc := 89) (fm_dec dtX11_clause 48 rfl) ?_
    refine pv_putI (k := 0) (j := 7) (ci := 11) (pc := 90) pfl_X11_157 (by decide) rfl (by decide) (fm_dec dtX11_clause 49 rfl) ?_
    have eS : spClause tx c D a = spHas tx D (sp tW tx a) := (by unfold spClause; rw [ha, hk]; exact if_neg (fun h9 => by rcases h9 with h9 | h9 | h9; exact ne60 h7 hc28 h9; exact absurd h9.1 (by decide); exact absurd h9.1 (by decide)))
    exact cl_6 (M0 := M) (q := sp tW tx a) ((hS.set hx80 (sp_le tW_1 hS.2.2.2.1 hS.2.2.1)).of rfl rfl rfl) hf (hR.at0.at0) hD clI.at0 (fun M2 D2 q2 e h => hok M2 D2 q2 (eS.trans e) h) (fun M2 k2 a2 e h => hbad M2 k2 a2 (eS.trans e) h)
set_option maxRecDepth 20000 in
theorem cl5_7 {Q : fmR → fmM → Prop} {M : fmM} {tx : tX} {n a c : Nat} {D : dD} {v2 v3 v4 : Option Value} (ha : sk tx a = a) (hk : dwK (wd tx a) = some 7) (hS : rS M tx n a) (hf : M.1 0 5 = 0) (h7 : (M.1 0 7).toInt = c) (hR : dRep M D) (hD : dOk D) (hok : ∀ (M' : fmM) (D' : dD) (q' : Nat), spClause tx c D a = .inr (D', q') → clOk M M' tx n q' D' → Q (.inl none) M') (hbad : ∀ (M' : fmM) (k a' : Nat), spClause tx c D a = .inl (k, a') → clBad M M' tx n k a' → Q (.inl none) M') : pvEv Tm 5 qX11_clause 5 [some (.ref 0), some (.int 7), v2, v3, v4] [] M Q := by
  refine pv_iloadn (pc := 5) (n := 1) 1 rfl rfl (fm_dec dtX11_clause 3 rfl) ?_
  refine pv_iconst (pc := 6) (v := (-1)) (by decide) (fm_dec dtX11_clause 4 rfl) ?_
  refine pv_icmp_ne (pc := 7) 22 (by decide) (fm_dec dtX11_clause 5 rfl) (fun _ => ?_) (fun hc7 => by exfalso; revert hc7; decide)
  refine pv_aloadn (pc := 22) (n := 0) 0 rfl rfl (fm_dec dtX11_clause 12 rfl) ?_
  refine pv_getI (k := 0) (j := 7) (ci := 11) (pc := 23) pfl_X11_157 (by decide) rfl (by decide) (fm_dec dtX11_clause 13 rfl) ?_
  refine pv_bipush (pc := 26) (v := 60) (by decide) (fm_dec dtX11_clause 14 rfl) ?_
  refine pv_icmp_eq (pc := 28) 62 (by decide) (fm_dec dtX11_clause 15 rfl) (fun hc28 => ?_) (fun hc28 => ?_)
  · refine pv_aloadn (pc := 62) (n := 0) 0 rfl rfl (fm_dec dtX11_clause 33 rfl) ?_
    refine pv_iconst (pc := 63) (v := 3) (by decide) (fm_dec dtX11_clause 34 rfl) ?_
    refine pv_aloadn (pc := 64) (n := 0) 0 rfl rfl (fm_dec dtX11_clause 35 rfl) ?_
    refine pv_getI (k := 0) (j := 4) (ci := 11) (pc := 65) pfl_X11_110 (by decide) rfl (by decide) (fm_dec dtX11_clause 36 rfl) ?_
    refine pv_invV2 (k := 0) (d' := 0) (pc := 68) pcv_X11_130 (by decide) rfl (Nat.le_of_ble_eq_true rfl) (by decide) (fm_dec dtX11_clause 37 rfl) ?_
    refine c_wrongAt (fun _ => ?_) (fun h9 => absurd hf h9) 
    refine pv_then0 ?_
    refine pv_aloadn (pc := 71) (n := 0) 0 rfl rfl (fm_dec dtX11_clause 38 rfl) ?_
    refine pv_getI (k := 0) (j := 5) (ci := 11) (pc := 72) pfl_X11_117 (by decide) rfl (by decide) (fm_dec dtX11_clause 39 rfl) ?_
    refine pv_if_eq (pc := 75) 79 (by decide) (fm_dec dtX11_clause 40 rfl) (fun hc75 => by exfalso; exact absurd (show (3 : Int32) = 0 from hc75) (by decide)) (fun _ => ?_)
    exact pv_return (pc := 78) rfl (fm_dec dtX11_clause 41 rfl) (hbad _ 3 a (by unfold spClause; rw [ha, hk]; exact if_pos (Or.inl (eq60 h7 hc28))) (clBad.of (clFr.refl M) (rdBad.at0 hS (by decide) hS.2.1 (by decide))))
  · refine pv_iloadn (pc := 31) (n := 1) 1 rfl rfl (fm_dec dtX11_clause 16 rfl) ?_
    refine pv_if_ne (pc := 32) 46 (by decide) (fm_dec dtX11_clause 17 rfl) (fun _ => ?_) (fun hc32 => by exfalso; revert hc32; decide)
    refine pv_iloadn (pc := 46) (n := 1) 1 rfl rfl (fm_dec dtX11_clause 24 rfl) ?_
    refine pv_iconst (pc := 47) (v := 1) (by decide) (fm_dec dtX11_clause 25 rfl) ?_
    refine pv_icmp_ne (pc := 48) 71 (by decide) (fm_dec dtX11_clause 26 rfl) (fun _ => ?_) (fun hc48 => by exfalso; revert hc48; decide)
    refine pv_aloadn (pc := 71) (n := 0) 0 rfl rfl (fm_dec dtX11_clause 38 rfl) ?_
    refine pv_getI (k := 0) (j := 5) (ci := 11) (pc := 72) pfl_X11_117 (by decide) rfl (by decide) (fm_dec dtX11_clause 39 rfl) ?_
    refine pv_if_eq (pc := 75) 79 (by decide) (fm_dec dtX11_clause 40 rfl) (fun _ => ?_) (fun hc75 => by exfalso; exact hc75 hf)
    refine pv_aloadn (pc := 79) (n := 0) 0 rfl rfl (fm_dec dtX11_clause 42 rfl) ?_
    refine pv_invV0 (k := 0) (d' := 1) (pc := 80) pcv_X11_154 (by decide) rfl (Nat.le_of_ble_eq_true rfl) (by decide) (fm_dec dtX11_clause 43 rfl) ?_
    refine c_skipWord hS (fun x80 hx80 => ?_)
    refine pv_then0 ?_
    refine pv_aloadn (pc := 83) (n := 0) 0 rfl rfl (fm_dec dtX11_clause 44 rfl) ?_
    refine pv_dup (pc := 84) rfl (fm_dec dtX11_clause 45 rfl) ?_
    refine pv_getI (k := 0) (j := 7) (ci := 11) (pc := 85) pfl_X11_157 (by decide) rfl (by decide) (fm_dec dtX11_clause 46 rfl) ?_
    refine pv_iconst (pc := 88) (v := 1) (by decide) (fm_dec dtX11_clause 47 rfl) ?_
    refine pv_iadd (pc := 89) (fm_dec dtX11_clause 48 rfl) ?_
    refine pv_putI (k := 0) (j := 7) (ci := 11) (pc := 90) pfl_X11_157 (by decide) rfl (by decide) (fm_dec dtX11_clause 49 rfl) ?_
    have eS : spClause tx c D a = spBy tx D (sp tW tx a) := (by unfold spClause; rw [ha, hk]; exact if_neg (fun h9 => by rcases h9 with h9 | h9 | h9; exact ne60 h7 hc28 h9; exact absurd h9.1 (by decide); exact absurd h9.1 (by decide)))
    exact cl_7 (M0 := M) (q := sp tW tx a) ((hS.set hx80 (sp_le tW_1 hS.2.2.2.1 hS.2.2.1)).of rfl rfl rfl) hf (hR.at0.at0) hD clI.at0 (fun M2 D2 q2 e h => hok M2 D2 q2 (eS.trans e) h) (fun M2 k2 a2 e h => hbad M2 k2 a2 (eS.trans e) h)
set_option maxRecDepth 20000 in
theorem cl5_n {Q : fmR → fmM → Prop} {M : fmM} {tx : tX} {n a c : Nat} {D : dD} {v2 v3 v4 : Option Value} (ha : sk tx a = a) (hk : dwK (wd tx a) = none) (hS : rS M tx n a) (hf : M.1 0 5 = 0) (h7 : (M.1 0 7).toInt = c) (hR : dRep M D) (hD : dOk D) (hok : ∀ (M' : fmM) (D' : dD) (q' : Nat), spClause tx c D a = .inr (D', q') → clOk M M' tx n q' D' → Q (.inl none) M') (hbad : ∀ (M' : fmM) (k a' : Nat), spClause tx c D a = .inl (k, a') → clBad M M' tx n k a' → Q (.inl none) M') : pvEv Tm 5 qX11_clause 5 [some (.ref 0), some (.int (-1)), v2, v3, v4] [] M Q := by
  refine pv_iloadn (pc := 5) (n := 1) 1 rfl rfl (fm_dec dtX11_clause 3 rfl) ?_
  refine pv_iconst (pc := 6) (v := (-1)) (by decide) (fm_dec dtX11_clause 4 rfl) ?_
  refine pv_icmp_ne (pc := 7) 22 (by decide) (fm_dec dtX11_clause 5 rfl) (fun hc7 => by exfalso; revert hc7; decide) (fun _ => ?_)
  refine pv_aloadn (pc := 10) (n := 0) 0 rfl rfl (fm_dec dtX11_clause 6 rfl) ?_
  refine pv_iconst (pc := 11) (v := 1) (by decide) (fm_dec dtX11_clause 7 rfl) ?_
  refine pv_aloadn (pc := 12) (n := 0) 0 rfl rfl (fm_dec dtX11_clause 8 rfl) ?_
  refine pv_getI (k := 0) (j := 4) (ci := 11) (pc := 13) pfl_X11_110 (by decide) rfl (by decide) (fm_dec dtX11_clause 9 rfl) ?_
  refine pv_invV2 (k := 0) (d' := 0) (pc := 16) pcv_X11_130 (by decide) rfl (Nat.le_of_ble_eq_true rfl) (by decide) (fm_dec dtX11_clause 10 rfl) ?_
  refine c_wrongAt (fun _ => ?_) (fun h9 => absurd hf h9) 
  refine pv_then0 ?_
  refine pv_goto (pc := 19) 71 (by decide) (fm_dec dtX11_clause 11 rfl) ?_
  refine pv_aloadn (pc := 71) (n := 0) 0 rfl rfl (fm_dec dtX11_clause 38 rfl) ?_
  refine pv_getI (k := 0) (j := 5) (ci := 11) (pc := 72) pfl_X11_117 (by decide) rfl (by decide) (fm_dec dtX11_clause 39 rfl) ?_
  refine pv_if_eq (pc := 75) 79 (by decide) (fm_dec dtX11_clause 40 rfl) (fun hc75 => by exfalso; exact absurd (show (1 : Int32) = 0 from hc75) (by decide)) (fun _ => ?_)
  exact pv_return (pc := 78) rfl (fm_dec dtX11_clause 41 rfl) (hbad _ 1 a (by unfold spClause; rw [ha, hk]) (clBad.of (clFr.refl M) (rdBad.at0 hS (by decide) hS.2.1 (by decide))))
set_option maxRecDepth 20000 in
theorem c_clause {M : fmM} {Q : fmR → fmM → Prop} {tx : tX} {n p c : Nat} {D : dD} (hS : rS M tx n p) (hf : M.1 0 5 = 0) (h7 : (M.1 0 7).toInt = c) (hR : dRep M D) (hD : dOk D) (hok : ∀ (M' : fmM) (D' : dD) (q' : Nat), spClause tx c D p = .inr (D', q') → clOk M M' tx n q' D' → Q (.inl none) M') (hbad : ∀ (M' : fmM) (k a' : Nat), spClause tx c D p = .inl (k, a') → clBad M M' tx n k a' → Q (.inl none) M') : pvGood Tm 5 qX11_clause [.ref 0] M Q := by
  refine pvGood_of (Nat.le_of_ble_eq_true rfl) ?_
  show pvEv Tm 5 qX11_clause 0 [some (.ref 0), none, none, none, none] [] M Q
  refine pv_aloadn (pc := 0) (n := 0) 0 rfl rfl (fm_dec dtX11_clause 0 rfl) ?_
  refine pv_invV0 (k := 0) (d' := 4) (pc := 1) pcv_X11_167 (by decide) rfl (Nat.le_of_ble_eq_true rfl) (by decide) (fm_dec dtX11_clause 1 rfl) ?_
  refine c_kindHere hS hf (fun x1 e1 hx1 => ?_) (fun x1 e1 hx1 => ?_) (fun x1 e1 hx1 => ?_) (fun x1 e1 hx1 => ?_) (fun x1 e1 hx1 => ?_) (fun x1 e1 hx1 => ?_) (fun x1 e1 hx1 => ?_) (fun x1 e1 hx1 => ?_) (fun x1 e1 hx1 => ?_)
  · refine pv_then1 ?_
    refine pv_istoren (pc := 4) (n := 1) 1 rfl (by decide) rfl (fm_dec dtX11_clause 2 rfl) ?_
    dsimp only [List.set_cons_zero, List.set_cons_succ]
    exact cl5_0 (sk_sk hS.2.2.2.1 hS.2.2.1) e1 (hS.bl hx1) hf h7 hR.at0 hD (fun M2 D2 q2 e h => hok M2 D2 q2 ((spClause_sk hS.2.2.2.1 hS.2.2.1).symm.trans e) h.pre) (fun M2 k2 a2 e h => hbad M2 k2 a2 ((spClause_sk hS.2.2.2.1 hS.2.2.1).symm.trans e) h.pre)
  · refine pv_then1 ?_
    refine pv_istoren (pc := 4) (n := 1) 1 rfl (by decide) rfl (fm_dec dtX11_clause 2 rfl) ?_
    dsimp only [List.set_cons_zero, List.set_cons_succ]
    exact cl5_1 (sk_sk hS.2.2.2.1 hS.2.2.1) e1 (hS.bl hx1) hf h7 hR.at0 hD (fun M2 D2 q2 e h => hok M2 D2 q2 ((spClause_sk hS.2.2.2.1 hS.2.2.1).symm.trans e) h.pre) (fun M2 k2 a2 e h => hbad M2 k2 a2 ((spClause_sk hS.2.2.2.1 hS.2.2.1).symm.trans e) h.pre)
  · refine pv_then1 ?_
    refine pv_istoren (pc := 4) (n := 1) 1 rfl (by decide) rfl (fm_dec dtX11_clause 2 rfl) ?_
    dsimp only [List.set_cons_zero, List.set_cons_succ]
    exact cl5_2 (sk_sk hS.2.2.2.1 hS.2.2.1) e1 (hS.bl hx1) hf h7 hR.at0 hD (fun M2 D2 q2 e h => hok M2 D2 q2 ((spClause_sk hS.2.2.2.1 hS.2.2.1).symm.trans e) h.pre) (fun M2 k2 a2 e h => hbad M2 k2 a2 ((spClause_sk hS.2.2.2.1 hS.2.2.1).symm.trans e) h.pre)
  · refine pv_then1 ?_
    refine pv_istoren (pc := 4) (n := 1) 1 rfl (by decide) rfl (fm_dec dtX11_clause 2 rfl) ?_
    dsimp only [List.set_cons_zero, List.set_cons_succ]
    exact cl5_3 (sk_sk hS.2.2.2.1 hS.2.2.1) e1 (hS.bl hx1) hf h7 hR.at0 hD (fun M2 D2 q2 e h => hok M2 D2 q2 ((spClause_sk hS.2.2.2.1 hS.2.2.1).symm.trans e) h.pre) (fun M2 k2 a2 e h => hbad M2 k2 a2 ((spClause_sk hS.2.2.2.1 hS.2.2.1).symm.trans e) h.pre)
  · refine pv_then1 ?_
    refine pv_istoren (pc := 4) (n := 1) 1 rfl (by decide) rfl (fm_dec dtX11_clause 2 rfl) ?_
    dsimp only [List.set_cons_zero, List.set_cons_succ]
    exact cl5_4 (sk_sk hS.2.2.2.1 hS.2.2.1) e1 (hS.bl hx1) hf h7 hR.at0 hD (fun M2 D2 q2 e h => hok M2 D2 q2 ((spClause_sk hS.2.2.2.1 hS.2.2.1).symm.trans e) h.pre) (fun M2 k2 a2 e h => hbad M2 k2 a2 ((spClause_sk hS.2.2.2.1 hS.2.2.1).symm.trans e) h.pre)
  · refine pv_then1 ?_
    refine pv_istoren (pc := 4) (n := 1) 1 rfl (by decide) rfl (fm_dec dtX11_clause 2 rfl) ?_
    dsimp only [List.set_cons_zero, List.set_cons_succ]
    exact cl5_5 (sk_sk hS.2.2.2.1 hS.2.2.1) e1 (hS.bl hx1) hf h7 hR.at0 hD (fun M2 D2 q2 e h => hok M2 D2 q2 ((spClause_sk hS.2.2.2.1 hS.2.2.1).symm.trans e) h.pre) (fun M2 k2 a2 e h => hbad M2 k2 a2 ((spClause_sk hS.2.2.2.1 hS.2.2.1).symm.trans e) h.pre)
  · refine pv_then1 ?_
    refine pv_istoren (pc := 4) (n := 1) 1 rfl (by decide) rfl (fm_dec dtX11_clause 2 rfl) ?_
    dsimp only [List.set_cons_zero, List.set_cons_succ]
    exact cl5_6 (sk_sk hS.2.2.2.1 hS.2.2.1) e1 (hS.bl hx1) hf h7 hR.at0 hD (fun M2 D2 q2 e h => hok M2 D2 q2 ((spClause_sk hS.2.2.2.1 hS.2.2.1).symm.trans e) h.pre) (fun M2 k2 a2 e h => hbad M2 k2 a2 ((spClause_sk hS.2.2.2.1 hS.2.2.1).symm.trans e) h.pre)
  · refine pv_then1 ?_
    refine pv_istoren (pc := 4) (n := 1) 1 rfl (by decide) rfl (fm_dec dtX11_clause 2 rfl) ?_
    dsimp only [List.set_cons_zero, List.set_cons_succ]
    exact cl5_7 (sk_sk hS.2.2.2.1 hS.2.2.1) e1 (hS.bl hx1) hf h7 hR.at0 hD (fun M2 D2 q2 e h => hok M2 D2 q2 ((spClause_sk hS.2.2.2.1 hS.2.2.1).symm.trans e) h.pre) (fun M2 k2 a2 e h => hbad M2 k2 a2 ((spClause_sk hS.2.2.2.1 hS.2.2.1).symm.trans e) h.pre)
  · refine pv_then1 ?_
    refine pv_istoren (pc := 4) (n := 1) 1 rfl (by decide) rfl (fm_dec dtX11_clause 2 rfl) ?_
    dsimp only [List.set_cons_zero, List.set_cons_succ]
    exact cl5_n (sk_sk hS.2.2.2.1 hS.2.2.1) e1 (hS.bl hx1) hf h7 hR.at0 hD (fun M2 D2 q2 e h => hok M2 D2 q2 ((spClause_sk hS.2.2.2.1 hS.2.2.1).symm.trans e) h.pre) (fun M2 k2 a2 e h => hbad M2 k2 a2 ((spClause_sk hS.2.2.2.1 hS.2.2.1).symm.trans e) h.pre)
set_option maxRecDepth 20000 in
theorem st_1 {Q : fmR → fmM → Prop} {v : Nat → Int32} : ∀ (m : Nat) (M : fmM) (k : Nat) (kk : Int32), kk.toInt = k → k + m = 6 → (∀ j, v j = M.1 3 j) → (∀ (M' : fmM) (kk' : Int32), upR 4 k 6 v M M' → pvEv Tm 1 qX11_stands 26 [some (.ref 0), some (.int kk')] [] M' Q) → pvEv Tm 1 qX11_stands 2 [some (.ref 0), some (.int kk)] [] M Q := by
  intro m
  induction m using Nat.strongRecOn with
  | _ m ih =>
    intro M k kk hkk hm hv hq
    refine pv_iloadn (pc := 2) (n := 1) 1 rfl rfl (fm_dec dtX11_stands 2 rfl) ?_
    refine pv_bipush (pc := 3) (v := 6) (by decide) (fm_dec dtX11_stands 3 rfl) ?_
    refine pv_icmp_ge (pc := 5) 26 (by decide) (fm_dec dtX11_stands 4 rfl) (fun hc5 => ?_) (fun hc5 => ?_)
    · have h8 : k = 6 := (by rw [sc_le] at hc5; have h9 : (6 : Int32).toInt = 6 := (by decide); omega)
      subst h8
      exact hq M kk upR.nil
    · have h8 : k < 6 := (by rw [sc_le] at hc5; have h9 : (6 : Int32).toInt = 6 := (by decide); omega)
      refine pv_aloadn (pc := 8) (n := 0) 0 rfl rfl (fm_dec dtX11_stands 5 rfl) ?_
      refine pv_getR (k := 0) (j := 12) (ci := 11) (pc := 9) 4 rfl (by decide) pfl_X11_23 (by decide) rfl (by decide) (fm_dec dtX11_stands 6 rfl) ?_
      refine pv_iloadn (pc := 12) (n := 1) 1 rfl rfl (fm_dec dtX11_stands 7 rfl) ?_
      refine pv_aloadn (pc := 13) (n := 0) 0 rfl rfl (fm_dec dtX11_stands 8 rfl) ?_
      refine pv_getR (k := 0) (j := 11) (ci := 11) (pc := 14) 3 rfl (by decide) pfl_X11_20 (by decide) rfl (by decide) (fm_dec dtX11_stands 9 rfl) ?_
      refine pv_iloadn (pc := 17) (n := 1) 1 rfl rfl (fm_dec dtX11_stands 10 rfl) ?_
      refine pv_iald (k := 3) (n := 6) (pc := 18) (by decide) rfl rfl (ix_in hkk (by omega)) (fm_dec dtX11_stands 11 rfl) ?_
      refine pv_iast (k := 4) (n := 6) (pc := 19) (by decide) rfl rfl (ix_in hkk (by omega)) (fm_dec dtX11_stands 12 rfl) ?_
      refine pv_iincc (pc := 20) 1 1 (by decide) rfl (by decide) rfl (fm_dec dtX11_stands 13 rfl) ?_
      dsimp only [List.set_cons_zero, List.set_cons_succ]
      refine pv_goto (pc := 23) 2 (by decide) (fm_dec dtX11_stands 14 rfl) ?_
      rw [i32_cl hkk]
      exact ih (6 - (k + 1)) (by omega) _ (k + 1) _ (i32_p1 hkk (by omega)) (by omega) (fun j => (hv j).trans (by rw [fmI_k _ _ (by decide)])) (fun M' kk' h => hq M' kk' (h.step h8 (hv k).symm))
set_option maxRecDepth 20000 in
theorem st_2 {Q : fmR → fmM → Prop}  : ∀ (m : Nat) (M : fmM) (k : Nat) (kk : Int32), kk.toInt = k → k + m = 14 → (∀ (M' : fmM) (kk' : Int32), upR 7 k 14 (fun _ => 0) M M' → pvEv Tm 1 qX11_stands 81 [some (.ref 0), some (.int kk')] [] M' Q) → pvEv Tm 1 qX11_stands 62 [some (.ref 0), some (.int kk)] [] M Q := by
  intro m
  induction m using Nat.strongRecOn with
  | _ m ih =>
    intro M k kk hkk hm hq
    refine pv_iloadn (pc := 62) (n := 1) 1 rfl rfl (fm_dec dtX11_stands 35 rfl) ?_
    refine pv_bipush (pc := 63) (v := 14) (by decide) (fm_dec dtX11_stands 36 rfl) ?_
    refine pv_icmp_ge (pc := 65) 81 (by decide) (fm_dec dtX11_stands 37 rfl) (fun hc65 => ?_) (fun hc65 => ?_)
    · have h8 : k = 14 := (by rw [sc_le] at hc65; have h9 : (14 : Int32).toInt = 14 := (by decide); omega)
      subst h8
      exact hq M kk upR.nil
    · have h8 : k < 14 := (by rw [sc_le] at hc65; have h9 : (14 : Int32).toInt = 14 := (by decide); omega)
      refine pv_aloadn (pc := 68) (n := 0) 0 rfl rfl (fm_dec dtX11_stands 38 rfl) ?_
      refine pv_getR (k := 0) (j := 27) (ci := 11) (pc := 69) 7 rfl (by decide) pfl_X11_61 (by decide) rfl (by decide) (fm_dec dtX11_stands 39 rfl) ?_
      refine pv_iloadn (pc := 72) (n := 1) 1 rfl rfl (fm_dec dtX11_stands 40 rfl) ?_
      refine pv_iconst (pc := 73) (v := 0) (by decide) (fm_dec dtX11_stands 41 rfl) ?_
      refine pv_iast (k := 7) (n := 14) (pc := 74) (by decide) rfl rfl (ix_in hkk (by omega)) (fm_dec dtX11_stands 42 rfl) ?_
      refine pv_iincc (pc := 75) 1 1 (by decide) rfl (by decide) rfl (fm_dec dtX11_stands 43 rfl) ?_
      dsimp only [List.set_cons_zero, List.set_cons_succ]
      refine pv_goto (pc := 78) 62 (by decide) (fm_dec dtX11_stands 44 rfl) ?_
      rw [i32_cl hkk]
      exact ih (14 - (k + 1)) (by omega) _ (k + 1) _ (i32_p1 hkk (by omega)) (by omega) (fun M' kk' h => hq M' kk' (h.step h8 rfl))
set_option maxRecDepth 20000 in
theorem st_3 {Q : fmR → fmM → Prop} {v : Nat → Int32} : ∀ (m : Nat) (M : fmM) (k : Nat) (kk : Int32), kk.toInt = k → k + m = 8 → (∀ i, k ≤ i → v (1 + i) = vNow M (1 + i)) → (∀ (M' : fmM) (kk' : Int32), upR 7 (1 + k) 9 v M M' → pvEv Tm 1 qX11_stands 140 [some (.ref 0), some (.int kk')] [] M' Q) → pvEv Tm 1 qX11_stands 83 [some (.ref 0), some (.int kk)] [] M Q := by
  intro m
  induction m using Nat.strongRecOn with
  | _ m ih =>
    intro M k kk hkk hm hv hq
    refine pv_iloadn (pc := 83) (n := 1) 1 rfl rfl (fm_dec dtX11_stands 47 rfl) ?_
    refine pv_bipush (pc := 84) (v := 8) (by decide) (fm_dec dtX11_stands 48 rfl) ?_
    refine pv_icmp_ge (pc := 86) 140 (by decide) (fm_dec dtX11_stands 49 rfl) (fun hc86 => ?_) (fun hc86 => ?_)
    · have h8 : k = 8 := (by rw [sc_le] at hc86; have h9 : (8 : Int32).toInt = 8 := (by decide); omega)
      subst h8
      exact hq M kk upR.nil
    · have h8 : k < 8 := (by rw [sc_le] at hc86; have h9 : (8 : Int32).toInt = 8 := (by decide); omega)
      refine pv_aloadn (pc := 89) (n := 0) 0 rfl rfl (fm_dec dtX11_stands 50 rfl) ?_
      refine pv_getR (k := 0) (j := 27) (ci := 11) (pc := 90) 7 rfl (by decide) pfl_X11_61 (by decide) rfl (by decide) (fm_dec dtX11_stands 51 rfl) ?_
      refine pv_iconst (pc := 93) (v := 1) (by decide) (fm_dec dtX11_stands 52 rfl) ?_
      refine pv_iloadn (pc := 94) (n := 1) 1 rfl rfl (fm_dec dtX11_stands 53 rfl) ?_
      refine pv_iadd (pc := 95) (fm_dec dtX11_stands 54 rfl) ?_
      refine pv_iloadn (pc := 96) (n := 1) 1 rfl rfl (fm_dec dtX11_stands 55 rfl) ?_
      refine pv_aloadn (pc := 97) (n := 0) 0 rfl rfl (fm_dec dtX11_stands 56 rfl) ?_
      refine pv_getR (k := 0) (j := 12) (ci := 11) (pc := 98) 4 rfl (by decide) pfl_X11_23 (by decide) rfl (by decide) (fm_dec dtX11_stands 57 rfl) ?_
      refine pv_iconst (pc := 101) (v := 0) (by decide) (fm_dec dtX11_stands 58 rfl) ?_
      refine pv_iald (k := 4) (n := 6) (pc := 102) (by decide) rfl rfl (fm_inl (by decide)) (fm_dec dtX11_stands 59 rfl) ?_
      refine pv_icmp_ge (pc := 103) 118 (by decide) (fm_dec dtX11_stands 60 rfl) (fun hc103 => ?_) (fun hc103 => ?_)
      · refine pv_sipush (pc := 118) (v := (-1000)) (by decide) (fm_dec dtX11_stands 69 rfl) ?_
        refine pv_goto (pc := 121) 133 (by decide) (fm_dec dtX11_stands 70 rfl) ?_
        refine pv_iast (k := 7) (n := 14) (pc := 133) (by decide) rfl rfl (ix_in (ix_1 hkk (by omega)) (by omega)) (fm_dec dtX11_stands 78 rfl) ?_
        refine pv_iincc (pc := 134) 1 1 (by decide) rfl (by decide) rfl (fm_dec dtX11_stands 79 rfl) ?_
        dsimp only [List.set_cons_zero, List.set_cons_succ]
        refine pv_goto (pc := 137) 83 (by decide) (fm_dec dtX11_stands 80 rfl) ?_
        rw [i32_cl (ix_1 hkk (by omega))]
        exact ih (8 - (k + 1)) (by omega) _ (k + 1) _ (i32_p1 hkk (by omega)) (by omega) (fun i hi => (hv i (by omega)).trans vn_k.symm) (fun M' kk' h => hq M' kk' (upR.step h (by omega) (by rw [hv k (Nat.le_refl _)]; exact vn_ge hkk h8 hc103)))
      · refine pv_aloadn (pc := 106) (n := 0) 0 rfl rfl (fm_dec dtX11_stands 61 rfl) ?_
        refine pv_getR (k := 0) (j := 14) (ci := 11) (pc := 107) 17 rfl (by decide) pfl_X11_31 (by decide) rfl (by decide) (fm_dec dtX11_stands 62 rfl) ?_
        refine pv_iloadn (pc := 110) (n := 1) 1 rfl rfl (fm_dec dtX11_stands 63 rfl) ?_
        refine pv_aald (k := 17) (n := 8) (r := (35 + k)) (pc := 111) (by decide) (Or.inr (Or.inr rfl)) rfl (rw_life.inb hkk h8) (rw_life.at hkk h8) (rw_life.2.2.2 _ h8).2.1 (fm_dec dtX11_stands 64 rfl) ?_
        refine pv_iconst (pc := 112) (v := 4) (by decide) (fm_dec dtX11_stands 65 rfl) ?_
        refine pv_iald (k := (35 + k)) (n := 6) (pc := 113) (rw_life.2.2.2 _ h8).2.2.1 (rw_life.2.2.2 _ h8).2.2.2.1 (rw_life.2.2.2 _ h8).2.2.2.2 (fm_inl (by decide)) (fm_dec dtX11_stands 66 rfl) ?_
        refine pv_iconst (pc := 114) (v := (-1)) (by decide) (fm_dec dtX11_stands 67 rfl) ?_
        refine pv_icmp_ne (pc := 115) 124 (by decide) (fm_dec dtX11_stands 68 rfl) (fun hc115 => ?_) (fun hc115 => ?_)
        · refine pv_aloadn (pc := 124) (n := 0) 0 rfl rfl (fm_dec dtX11_stands 71 rfl) ?_
          refine pv_getR (k := 0) (j := 14) (ci := 11) (pc := 125) 17 rfl (by decide) pfl_X11_31 (by decide) rfl (by decide) (fm_dec dtX11_stands 72 rfl) ?_
          refine pv_iloadn (pc := 128) (n := 1) 1 rfl rfl (fm_dec dtX11_stands 73 rfl) ?_
          refine pv_aald (k := 17) (n := 8) (r := (35 + k)) (pc := 129) (by decide) (Or.inr (Or.inr rfl)) rfl (rw_life.inb hkk h8) (rw_life.at hkk h8) (rw_life.2.2.2 _ h8).2.1 (fm_dec dtX11_stands 74 rfl) ?_
          refine pv_iconst (pc := 130) (v := 4) (by decide) (fm_dec dtX11_stands 75 rfl) ?_
          refine pv_iald (k := (35 + k)) (n := 6) (pc := 131) (rw_life.2.2.2 _ h8).2.2.1 (rw_life.2.2.2 _ h8).2.2.2.1 (rw_life.2.2.2 _ h8).2.2.2.2 (fm_inl (by decide)) (fm_dec dtX11_stands 76 rfl) ?_
          refine pv_ineg (pc := 132) (fm_dec dtX11_stands 77 rfl) ?_
          refine pv_iast (k := 7) (n := 14) (pc := 133) (by decide) rfl rfl (ix_in (ix_1 hkk (by omega)) (by omega)) (fm_dec dtX11_stands 78 rfl) ?_
          refine pv_iincc (pc := 134) 1 1 (by decide) rfl (by decide) rfl (fm_dec dtX11_stands 79 rfl) ?_
          dsimp only [List.set_cons_zero, List.set_cons_succ]
          refine pv_goto (pc := 137) 83 (by decide) (fm_dec dtX11_stands 80 rfl) ?_
          rw [i32_cl (ix_1 hkk (by omega))]
          exact ih (8 - (k + 1)) (by omega) _ (k + 1) _ (i32_p1 hkk (by omega)) (by omega) (fun i hi => (hv i (by omega)).trans vn_k.symm) (fun M' kk' h => hq M' kk' (upR.step h (by omega) (by rw [hv k (Nat.le_refl _)]; exact vn_ne hkk h8 hc103 hc115)))
        · refine pv_sipush (pc := 118) (v := (-1000)) (by decide) (fm_dec dtX11_stands 69 rfl) ?_
          refine pv_goto (pc := 121) 133 (by decide) (fm_dec dtX11_stands 70 rfl) ?_
          refine pv_iast (k := 7) (n := 14) (pc := 133) (by decide) rfl rfl (ix_in (ix_1 hkk (by omega)) (by omega)) (fm_dec dtX11_stands 78 rfl) ?_
          refine pv_iincc (pc := 134) 1 1 (by decide) rfl (by decide) rfl (fm_dec dtX11_stands 79 rfl) ?_
          dsimp only [List.set_cons_zero, List.set_cons_succ]
          refine pv_goto (pc := 137) 83 (by decide) (fm_dec dtX11_stands 80 rfl) ?_
          rw [i32_cl (ix_1 hkk (by omega))]
          exact ih (8 - (k + 1)) (by omega) _ (k + 1) _ (i32_p1 hkk (by omega)) (by omega) (fun i hi => (hv i (by omega)).trans vn_k.symm) (fun M' kk' h => hq M' kk' (upR.step h (by omega) (by rw [hv k (Nat.le_refl _)]; exact vn_eq h8 hc115)))
set_option maxRecDepth 20000 in
theorem c_stands {M : fmM} {Q : fmR → fmM → Prop} {D : dD} (hR : dRep M D) (hD : dOk D) (hq : ∀ M' : fmM, sdOk M M' D → Q (.inl none) M') : pvGood Tm 1 qX11_stands [.ref 0] M Q := by
  refine pvGood_of (Nat.le_of_ble_eq_true rfl) ?_
  show pvEv Tm 1 qX11_stands 0 [some (.ref 0), none] [] M Q
  refine pv_iconst (pc := 0) (v := 0) (by decide) (fm_dec dtX11_stands 0 rfl) ?_
  refine pv_istoren (pc := 1) (n := 1) 1 rfl (by decide) rfl (fm_dec dtX11_stands 1 rfl) ?_
  dsimp only [List.set_cons_zero, List.set_cons_succ]
  refine st_1 (v := fun j => M.1 3 j) 6 M 0 0 (by decide) (by decide) (fun j => rfl) (fun M1 i1 h1 => ?_)
  refine pv_aloadn (pc := 26) (n := 0) 0 rfl rfl (fm_dec dtX11_stands 15 rfl) ?_
  refine pv_getR (k := 0) (j := 13) (ci := 11) (pc := 27) 16 rfl (by decide) pfl_X11_28 (by decide) rfl (by decide) (fm_dec dtX11_stands 16 rfl) ?_
  refine pv_aloadn (pc := 30) (n := 0) 0 rfl rfl (fm_dec dtX11_stands 17 rfl) ?_
  refine pv_getR (k := 0) (j := 14) (ci := 11) (pc := 31) 17 rfl (by decide) pfl_X11_31 (by decide) rfl (by decide) (fm_dec dtX11_stands 18 rfl) ?_
  refine pv_aloadn (pc := 34) (n := 0) 0 rfl rfl (fm_dec dtX11_stands 19 rfl) ?_
  refine pv_getR (k := 0) (j := 12) (ci := 11) (pc := 35) 4 rfl (by decide) pfl_X11_23 (by decide) rfl (by decide) (fm_dec dtX11_stands 20 rfl) ?_
  refine pv_iconst (pc := 38) (v := 0) (by decide) (fm_dec dtX11_stands 21 rfl) ?_
  refine pv_iald (k := 4) (n := 6) (pc := 39) (by decide) rfl rfl (fm_inl (by decide)) (fm_dec dtX11_stands 22 rfl) ?_
  refine pv_iS3 (d' := 0) (pc := 40) pcs_X11_190 (Nat.le_of_ble_eq_true rfl) (by decide) (fm_dec dtX11_stands 23 rfl) ?_
  refine c_lays_life (c := D.1) ((congrArg Int32.toInt (h1.1 0 (by decide) (by decide))).trans hR.1) hD.1 (fun M2 h2 => ?_)
  refine pv_then0 ?_
  refine pv_aloadn (pc := 43) (n := 0) 0 rfl rfl (fm_dec dtX11_stands 24 rfl) ?_
  refine pv_getR (k := 0) (j := 15) (ci := 11) (pc := 44) 18 rfl (by decide) pfl_X11_34 (by decide) rfl (by decide) (fm_dec dtX11_stands 25 rfl) ?_
  refine pv_aloadn (pc := 47) (n := 0) 0 rfl rfl (fm_dec dtX11_stands 26 rfl) ?_
  refine pv_getR (k := 0) (j := 16) (ci := 11) (pc := 48) 19 rfl (by decide) pfl_X11_37 (by decide) rfl (by decide) (fm_dec dtX11_stands 27 rfl) ?_
  refine pv_aloadn (pc := 51) (n := 0) 0 rfl rfl (fm_dec dtX11_stands 28 rfl) ?_
  refine pv_getR (k := 0) (j := 12) (ci := 11) (pc := 52) 4 rfl (by decide) pfl_X11_23 (by decide) rfl (by decide) (fm_dec dtX11_stands 29 rfl) ?_
  refine pv_iconst (pc := 55) (v := 1) (by decide) (fm_dec dtX11_stands 30 rfl) ?_
  refine pv_iald (k := 4) (n := 6) (pc := 56) (by decide) rfl rfl (fm_inl (by decide)) (fm_dec dtX11_stands 31 rfl) ?_
  refine pv_iS3 (d' := 0) (pc := 57) pcs_X11_190 (Nat.le_of_ble_eq_true rfl) (by decide) (fm_dec dtX11_stands 32 rfl) ?_
  refine c_lays_fact (c := D.2.2.1) ((congrArg Int32.toInt ((h2.2.1 4 1 (by have := hD.1; omega)).trans (h1.1 1 (by decide) (by decide)))).trans hR.2.1) hD.2.1 (fun M3 h3 => ?_)
  refine pv_then0 ?_
  refine pv_iconst (pc := 60) (v := 0) (by decide) (fm_dec dtX11_stands 33 rfl) ?_
  refine pv_istoren (pc := 61) (n := 1) 1 rfl (by decide) rfl (fm_dec dtX11_stands 34 rfl) ?_
  dsimp only [List.set_cons_zero, List.set_cons_succ]
  refine st_2 14 M3 0 0 (by decide) (by decide) (fun M4 i4 h4 => ?_)
  refine pv_iconst (pc := 81) (v := 0) (by decide) (fm_dec dtX11_stands 45 rfl) ?_
  refine pv_istoren (pc := 82) (n := 1) 1 rfl (by decide) rfl (fm_dec dtX11_stands 46 rfl) ?_
  dsimp only [List.set_cons_zero, List.set_cons_succ]
  refine st_3 (v := vNow M4) 8 M4 0 0 (by decide) (by decide) (fun i hi => rfl) (fun M5 i5 h5 => ?_)
  refine pv_aloadn (pc := 140) (n := 0) 0 rfl rfl (fm_dec dtX11_stands 81 rfl) ?_
  refine pv_getR (k := 0) (j := 27) (ci := 11) (pc := 141) 7 rfl (by decide) pfl_X11_61 (by decide) rfl (by decide) (fm_dec dtX11_stands 82 rfl) ?_
  refine pv_bipush (pc := 144) (v := 9) (by decide) (fm_dec dtX11_stands 83 rfl) ?_
  refine pv_aloadn (pc := 146) (n := 0) 0 rfl rfl (fm_dec dtX11_stands 84 rfl) ?_
  refine pv_getR (k := 0) (j := 12) (ci := 11) (pc := 147) 4 rfl (by decide) pfl_X11_23 (by decide) rfl (by decide) (fm_dec dtX11_stands 85 rfl) ?_
  refine pv_iconst (pc := 150) (v := 2) (by decide) (fm_dec dtX11_stands 86 rfl) ?_
  refine pv_iald (k := 4) (n := 6) (pc := 151) (by decide) rfl rfl (fm_inl (by decide)) (fm_dec dtX11_stands 87 rfl) ?_
  refine pv_iast (k := 7) (n := 14) (pc := 152) (by decide) rfl rfl (fm_inl (by decide)) (fm_dec dtX11_stands 88 rfl) ?_
  refine pv_aloadn (pc := 153) (n := 0) 0 rfl rfl (fm_dec dtX11_stands 89 rfl) ?_
  refine pv_iconst (pc := 154) (v := 0) (by decide) (fm_dec dtX11_stands 90 rfl) ?_
  refine pv_putI (k := 0) (j := 17) (ci := 11) (pc := 155) pfl_X11_194 (by decide) rfl (by decide) (fm_dec dtX11_stands 91 rfl) ?_
  refine pv_aloadn (pc := 158) (n := 0) 0 rfl rfl (fm_dec dtX11_stands 92 rfl) ?_
  refine pv_iconst (pc := 159) (v := 0) (by decide) (fm_dec dtX11_stands 93 rfl) ?_
  refine pv_putI (k := 0) (j := 31) (ci := 11) (pc := 160) pfl_X11_197 (by decide) rfl (by decide) (fm_dec dtX11_stands 94 rfl) ?_
  refine pv_aloadn (pc := 163) (n := 0) 0 rfl rfl (fm_dec dtX11_stands 95 rfl) ?_
  refine pv_iconst (pc := 164) (v := 0) (by decide) (fm_dec dtX11_stands 96 rfl) ?_
  refine pv_putI (k := 0) (j := 32) (ci := 11) (pc := 165) pfl_X11_200 (by decide) rfl (by decide) (fm_dec dtX11_stands 97 rfl) ?_
  refine pv_aloadn (pc := 168) (n := 0) 0 rfl rfl (fm_dec dtX11_stands 98 rfl) ?_
  refine pv_iconst (pc := 169) (v := 0) (by decide) (fm_dec dtX11_stands 99 rfl) ?_
  refine pv_putI (k := 0) (j := 33) (ci := 11) (pc := 170) pfl_X11_203 (by decide) rfl (by decide) (fm_dec dtX11_stands 100 rfl) ?_
  refine pv_aloadn (pc := 173) (n := 0) 0 rfl rfl (fm_dec dtX11_stands 101 rfl) ?_
  refine pv_iconst (pc := 174) (v := 0) (by decide) (fm_dec dtX11_stands 102 rfl) ?_
  refine pv_putI (k := 0) (j := 34) (ci := 11) (pc := 175) pfl_X11_206 (by decide) rfl (by decide) (fm_dec dtX11_stands 103 rfl) ?_
  exact pv_return (pc := 178) rfl (fm_dec dtX11_stands 104 rfl) (hq _ (sd_ok hR hD h1 h2 h3 h4 h5))
set_option maxRecDepth 20000 in
theorem c_tellsNothing {M : fmM} {Q : fmR → fmM → Prop}  (hq : Q (.inl none) (tnM M)) : pvGood Tm 0 qX11_tellsNothing [.ref 0] M Q := by
  refine pvGood_of (Nat.le_of_ble_eq_true rfl) ?_
  show pvEv Tm 0 qX11_tellsNothing 0 [some (.ref 0)] [] M Q
  refine pv_aloadn (pc := 0) (n := 0) 0 rfl rfl (fm_dec dtX11_tellsNothing 0 rfl) ?_
  refine pv_getR (k := 0) (j := 11) (ci := 11) (pc := 1) 3 rfl (by decide) pfl_X11_20 (by decide) rfl (by decide) (fm_dec dtX11_tellsNothing 1 rfl) ?_
  refine pv_iconst (pc := 4) (v := 0) (by decide) (fm_dec dtX11_tellsNothing 2 rfl) ?_
  refine pv_iconst (pc := 5) (v := 0) (by decide) (fm_dec dtX11_tellsNothing 3 rfl) ?_
  refine pv_iast (k := 3) (n := 6) (pc := 6) (by decide) rfl rfl (fm_inl (by decide)) (fm_dec dtX11_tellsNothing 4 rfl) ?_
  refine pv_aloadn (pc := 7) (n := 0) 0 rfl rfl (fm_dec dtX11_tellsNothing 5 rfl) ?_
  refine pv_getR (k := 0) (j := 11) (ci := 11) (pc := 8) 3 rfl (by decide) pfl_X11_20 (by decide) rfl (by decide) (fm_dec dtX11_tellsNothing 6 rfl) ?_
  refine pv_iconst (pc := 11) (v := 1) (by decide) (fm_dec dtX11_tellsNothing 7 rfl) ?_
  refine pv_iconst (pc := 12) (v := 0) (by decide) (fm_dec dtX11_tellsNothing 8 rfl) ?_
  refine pv_iast (k := 3) (n := 6) (pc := 13) (by decide) rfl rfl (fm_inl (by decide)) (fm_dec dtX11_tellsNothing 9 rfl) ?_
  refine pv_aloadn (pc := 14) (n := 0) 0 rfl rfl (fm_dec dtX11_tellsNothing 10 rfl) ?_
  refine pv_getR (k := 0) (j := 11) (ci := 11) (pc := 15) 3 rfl (by decide) pfl_X11_20 (by decide) rfl (by decide) (fm_dec dtX11_tellsNothing 11 rfl) ?_
  refine pv_iconst (pc := 18) (v := 2) (by decide) (fm_dec dtX11_tellsNothing 12 rfl) ?_
  refine pv_bipush (pc := 19) (v := 8) (by decide) (fm_dec dtX11_tellsNothing 13 rfl) ?_
  refine pv_iast (k := 3) (n := 6) (pc := 21) (by decide) rfl rfl (fm_inl (by decide)) (fm_dec dtX11_tellsNothing 14 rfl) ?_
  refine pv_aloadn (pc := 22) (n := 0) 0 rfl rfl (fm_dec dtX11_tellsNothing 15 rfl) ?_
  refine pv_getR (k := 0) (j := 11) (ci := 11) (pc := 23) 3 rfl (by decide) pfl_X11_20 (by decide) rfl (by decide) (fm_dec dtX11_tellsNothing 16 rfl) ?_
  refine pv_iconst (pc := 26) (v := 3) (by decide) (fm_dec dtX11_tellsNothing 17 rfl) ?_
  refine pv_iconst (pc := 27) (v := 5) (by decide) (fm_dec dtX11_tellsNothing 18 rfl) ?_
  refine pv_iast (k := 3) (n := 6) (pc := 28) (by decide) rfl rfl (fm_inl (by decide)) (fm_dec dtX11_tellsNothing 19 rfl) ?_
  refine pv_aloadn (pc := 29) (n := 0) 0 rfl rfl (fm_dec dtX11_tellsNothing 20 rfl) ?_
  refine pv_getR (k := 0) (j := 11) (ci := 11) (pc := 30) 3 rfl (by decide) pfl_X11_20 (by decide) rfl (by decide) (fm_dec dtX11_tellsNothing 21 rfl) ?_
  refine pv_iconst (pc := 33) (v := 4) (by decide) (fm_dec dtX11_tellsNothing 22 rfl) ?_
  refine pv_iconst (pc := 34) (v := 3) (by decide) (fm_dec dtX11_tellsNothing 23 rfl) ?_
  refine pv_iast (k := 3) (n := 6) (pc := 35) (by decide) rfl rfl (fm_inl (by decide)) (fm_dec dtX11_tellsNothing 24 rfl) ?_
  refine pv_aloadn (pc := 36) (n := 0) 0 rfl rfl (fm_dec dtX11_tellsNothing 25 rfl) ?_
  refine pv_getR (k := 0) (j := 11) (ci := 11) (pc := 37) 3 rfl (by decide) pfl_X11_20 (by decide) rfl (by decide) (fm_dec dtX11_tellsNothing 26 rfl) ?_
  refine pv_iconst (pc := 40) (v := 5) (by decide) (fm_dec dtX11_tellsNothing 27 rfl) ?_
  refine pv_iconst (pc := 41) (v := 2) (by decide) (fm_dec dtX11_tellsNothing 28 rfl) ?_
  refine pv_iast (k := 3) (n := 6) (pc := 42) (by decide) rfl rfl (fm_inl (by decide)) (fm_dec dtX11_tellsNothing 29 rfl) ?_
  exact pv_return (pc := 43) rfl (fm_dec dtX11_tellsNothing 30 rfl) hq
set_option maxRecDepth 20000 in
theorem dw_o1 {Q : fmR → fmM → Prop} {M : fmM} {nn : Int32} (hf : ¬ M.1 0 5 = 0) (hq : pvEv Tm 6 qX11_drawer 71 [some (.ref 0), some (.int nn)] [] M Q) : pvEv Tm 6 qX11_drawer 42 [some (.ref 0), some (.int nn)] [] M Q := by
  refine pv_aloadn (pc := 42) (n := 0) 0 rfl rfl (fm_dec dtX11_drawer 24 rfl) ?_
  refine pv_getI (k := 0) (j := 5) (ci := 11) (pc := 43) pfl_X11_117 (by decide) rfl (by decide) (fm_dec dtX11_drawer 25 rfl) ?_
  refine pv_if_ne (pc := 46) 71 (by decide) (fm_dec dtX11_drawer 26 rfl) (fun _ => ?_) (fun hc46 => by exfalso; exact hf hc46)
  exact hq
set_option maxRecDepth 20000 in
theorem dw_loop {tx : tX} {n : Nat} {M0 : fmM} {nn : Int32} {Q : fmR → fmM → Prop} : ∀ (f : Nat) (M : fmM) (c p : Nat) (D : dD), rS M tx n p → M.1 0 5 = 0 → (M.1 0 7).toInt = c → c ≤ 60 → dRep M D → dOk D → clFr M0 M → (∀ a, ¬ dwL tx n f c D p = .inl (9, a)) → (∀ (M2 : fmM) (D2 : dD), dwL tx n f c D p = .inr D2 → dRep M2 D2 → dOk D2 → M2.1 0 5 = 0 → clFr M0 M2 → pvEv Tm 6 qX11_drawer 71 [some (.ref 0), some (.int nn)] [] M2 Q) → (∀ (M2 : fmM) (k a : Nat), dwL tx n f c D p = .inl (k, a) → clBad M0 M2 tx n k a → pvEv Tm 6 qX11_drawer 71 [some (.ref 0), some (.int nn)] [] M2 Q) → pvEv Tm 6 qX11_drawer 42 [some (.ref 0), some (.int nn)] [] M Q := by
  intro f
  induction f with
  | zero => intro M c p D hS hf h7 hc hR hD hF hne hok hbad; exact absurd rfl (hne 0)
  | succ f ih =>
    intro M c p D hS hf h7 hc hR hD hF hne hok hbad
    refine pv_aloadn (pc := 42) (n := 0) 0 rfl rfl (fm_dec dtX11_drawer 24 rfl) ?_
    refine pv_getI (k := 0) (j := 5) (ci := 11) (pc := 43) pfl_X11_117 (by decide) rfl (by decide) (fm_dec dtX11_drawer 25 rfl) ?_
    refine pv_if_ne (pc := 46) 71 (by decide) (fm_dec dtX11_drawer 26 rfl) (fun hc46 => by exfalso; exact hc46 hf) (fun _ => ?_)
    refine pv_aloadn (pc := 49) (n := 0) 0 rfl rfl (fm_dec dtX11_drawer 27 rfl) ?_
    refine pv_getI (k := 0) (j := 4) (ci := 11) (pc := 50) pfl_X11_110 (by decide) rfl (by decide) (fm_dec dtX11_drawer 28 rfl) ?_
    refine pv_aloadn (pc := 53) (n := 0) 0 rfl rfl (fm_dec dtX11_drawer 29 rfl) ?_
    refine pv_getI (k := 0) (j := 2) (ci := 11) (pc := 54) pfl_X11_107 (by decide) rfl (by decide) (fm_dec dtX11_drawer 30 rfl) ?_
    refine pv_icmp_ge (pc := 57) 71 (by decide) (fm_dec dtX11_drawer 31 rfl) (fun hc57 => ?_) (fun hc57 => ?_)
    · exact hok M D (dwL_0 (by rw [sc_le, hS.1, hS.2.1] at hc57; omega)) hR hD hf hF
    · have hpn : ¬ n ≤ p := (by rw [sc_le, hS.1, hS.2.1] at hc57; omega)
      refine pv_aloadn (pc := 60) (n := 0) 0 rfl rfl (fm_dec dtX11_drawer 32 rfl) ?_
      refine pv_invV0 (k := 0) (d' := 5) (pc := 61) pcv_X11_184 (by decide) rfl (Nat.le_of_ble_eq_true rfl) (by decide) (fm_dec dtX11_drawer 33 rfl) ?_
      refine c_clause hS hf h7 hR hD (fun M61 D61 q61 e61 k61 => ?_) (fun Mb kb ab eb hB => ?_)  
      · refine pv_then0 ?_
        refine pv_aloadn (pc := 64) (n := 0) 0 rfl rfl (fm_dec dtX11_drawer 34 rfl) ?_
        refine pv_invV0 (k := 0) (d' := 1) (pc := 65) pcv_X11_123 (by decide) rfl (Nat.le_of_ble_eq_true rfl) (by decide) (fm_dec dtX11_drawer 35 rfl) ?_
        refine r_blanks k61.1 k61.2.1 (fun M65 k65 => ?_)
        refine pv_then0 ?_
        refine pv_goto (pc := 68) 42 (by decide) (fm_dec dtX11_drawer 36 rfl) ?_
        have e5 := dwL_2 (f := f) hpn e61
        have c60 : c ≠ 60 := (by intro h9; subst h9; exact spClause_60 e61)
        refine ih M65 (c + 1) (sk tx q61) D61 k65.1 k65.2.1 (by rw [k65.2.2.2.1 7 (by decide) (by decide) (by decide), k61.2.2.2.1]; exact i32_p1 h7 (by omega)) (by omega) (k61.2.2.1.rd k65.2.2) (spClause_ok hS.2.2.2.1 hS.2.2.1 hD e61).1 ((hF.trans k61.2.2.2.2).rd k65.2.2) (by rw [← e5]; exact hne) (fun M2 D2 e => hok M2 D2 (e5.trans e)) (fun M2 k a e => hbad M2 k a (e5.trans e))
      · refine pv_then0 ?_
        obtain ⟨qb, hSb⟩ := hB.1
        refine pv_aloadn (pc := 64) (n := 0) 0 rfl rfl (fm_dec dtX11_drawer 34 rfl) ?_
        refine pv_invV0 (k := 0) (d' := 1) (pc := 65) pcv_X11_123 (by decide) rfl (Nat.le_of_ble_eq_true rfl) (by decide) (fm_dec dtX11_drawer 35 rfl) ?_
        refine c_blanks hSb (fun x65 hx65 => ?_)
        refine pv_then0 ?_
        refine pv_goto (pc := 68) 42 (by decide) (fm_dec dtX11_drawer 36 rfl) ?_
        refine dw_o1 (show ¬ (fmI Mb 0 4 x65).1 0 5 = 0 from hB.nz) (hbad _ kb ab (dwL_1 hpn eb) ⟨⟨_, hSb.bl hx65⟩, hB.2.1, hB.2.2.1, hB.2.2.2.1, (hF.trans hB.2.2.2.2).trans clFr.at0⟩)
set_option maxRecDepth 20000 in
theorem dw_e1 {Q : fmR → fmM → Prop} {M : fmM} {nn : Int32} (hf : ¬ M.1 0 5 = 0) (hq : Q (.inl (some (.int (M.1 0 5 - 10)))) (fmI M 0 3 (M.1 0 6))) : pvEv Tm 6 qX11_drawer 71 [some (.ref 0), some (.int nn)] [] M Q := by
  refine pv_aloadn (pc := 71) (n := 0) 0 rfl rfl (fm_dec dtX11_drawer 37 rfl) ?_
  refine pv_getI (k := 0) (j := 5) (ci := 11) (pc := 72) pfl_X11_117 (by decide) rfl (by decide) (fm_dec dtX11_drawer 38 rfl) ?_
  refine pv_if_eq (pc := 75) 83 (by decide) (fm_dec dtX11_drawer 39 rfl) (fun hc75 => by exfalso; exact hf hc75) (fun _ => ?_)
  refine pv_aloadn (pc := 78) (n := 0) 0 rfl rfl (fm_dec dtX11_drawer 40 rfl) ?_
  refine pv_invV0 (k := 0) (d' := 0) (pc := 79) pcv_X11_187 (by decide) rfl (Nat.le_of_ble_eq_true rfl) (by decide) (fm_dec dtX11_drawer 41 rfl) ?_
  refine c_ends ?_
  refine pv_then1 ?_
  exact pv_ireturn (pc := 82) rfl (fm_dec dtX11_drawer 42 rfl) hq
set_option maxRecDepth 20000 in
theorem dw_e0 {Q : fmR → fmM → Prop} {M : fmM} {nn : Int32} {D : dD} (hf : M.1 0 5 = 0) (hR : dRep M D) (hD : dOk D) (hq : ∀ M' : fmM, sdOk (fmI M 0 3 (-1)) M' D → Q (.inl (some (.int (M'.1 4 0)))) M') : pvEv Tm 6 qX11_drawer 71 [some (.ref 0), some (.int nn)] [] M Q := by
  refine pv_aloadn (pc := 71) (n := 0) 0 rfl rfl (fm_dec dtX11_drawer 37 rfl) ?_
  refine pv_getI (k := 0) (j := 5) (ci := 11) (pc := 72) pfl_X11_117 (by decide) rfl (by decide) (fm_dec dtX11_drawer 38 rfl) ?_
  refine pv_if_eq (pc := 75) 83 (by decide) (fm_dec dtX11_drawer 39 rfl) (fun _ => ?_) (fun hc75 => by exfalso; exact hc75 hf)
  refine pv_aloadn (pc := 83) (n := 0) 0 rfl rfl (fm_dec dtX11_drawer 43 rfl) ?_
  refine pv_iconst (pc := 84) (v := (-1)) (by decide) (fm_dec dtX11_drawer 44 rfl) ?_
  refine pv_putI (k := 0) (j := 3) (ci := 11) (pc := 85) pfl_X11_9 (by decide) rfl (by decide) (fm_dec dtX11_drawer 45 rfl) ?_
  refine pv_aloadn (pc := 88) (n := 0) 0 rfl rfl (fm_dec dtX11_drawer 46 rfl) ?_
  refine pv_invV0 (k := 0) (d' := 1) (pc := 89) pcv_X11_98 (by decide) rfl (Nat.le_of_ble_eq_true rfl) (by decide) (fm_dec dtX11_drawer 47 rfl) ?_
  refine c_stands hR.at0 hD (fun M89 h89 => ?_)
  refine pv_then0 ?_
  refine pv_aloadn (pc := 92) (n := 0) 0 rfl rfl (fm_dec dtX11_drawer 48 rfl) ?_
  refine pv_getR (k := 0) (j := 12) (ci := 11) (pc := 93) 4 rfl (by decide) pfl_X11_23 (by decide) rfl (by decide) (fm_dec dtX11_drawer 49 rfl) ?_
  refine pv_iconst (pc := 96) (v := 0) (by decide) (fm_dec dtX11_drawer 50 rfl) ?_
  refine pv_iald (k := 4) (n := 6) (pc := 97) (by decide) rfl rfl (fm_inl (by decide)) (fm_dec dtX11_drawer 51 rfl) ?_
  exact pv_ireturn (pc := 98) rfl (fm_dec dtX11_drawer 52 rfl) (hq M89 h89)
set_option maxRecDepth 20000 in
theorem c_drawer {M : fmM} {Q : fmR → fmM → Prop} {nn : Int32} (hfed : rFed M) (ht6 : (M.1 0 1).toInt ≤ 600) (href : ¬ (0 ≤ nn.toInt ∧ nn.toInt ≤ (M.1 0 1).toInt) → Q (.inl (some (.int 0))) (rfM M 1 1)) (hok : ∀ (n0 : Nat) (M1 M2 : fmM) (D : dD) (r : Int32), nn.toInt = n0 → (n0 : Int) ≤ (M.1 0 1).toInt → stOk (fmI M 0 0 0) M1 (rT M n0) n0 → spDrawer (rT M n0) n0 = .inr D → dOk D → dwEnd M1 M2 D → r.toInt = D.1 → Q (.inl (some (.int r))) M2) (hbad : ∀ (n0 k a : Nat) (M1 M2 : fmM) (r : Int32), nn.toInt = n0 → (n0 : Int) ≤ (M.1 0 1).toInt → stOk (fmI M 0 0 0) M1 (rT M n0) n0 → spDrawer (rT M n0) n0 = .inl (k, a) → (1 ≤ k ∧ k ≤ 3) ∧ a ≤ n0 → dwBad M1 M2 a → r.toInt = (k : Int) - 10 → Q (.inl (some (.int r))) M2) : pvGood Tm 6 qX11_drawer [.ref 0, .int nn] M Q := by
  refine pvGood_of (Nat.le_of_ble_eq_true rfl) ?_
  show pvEv Tm 6 qX11_drawer 0 [some (.ref 0), some (.int nn)] [] M Q
  refine pv_aloadn (pc := 0) (n := 0) 0 rfl rfl (fm_dec dtX11_drawer 0 rfl) ?_
  refine pv_iconst (pc := 1) (v := 0) (by decide) (fm_dec dtX11_drawer 1 rfl) ?_
  refine pv_putI (k := 0) (j := 0) (ci := 11) (pc := 2) pfl_X11_101 (by decide) rfl (by decide) (fm_dec dtX11_drawer 2 rfl) ?_
  refine pv_aloadn (pc := 5) (n := 0) 0 rfl rfl (fm_dec dtX11_drawer 3 rfl) ?_
  refine pv_iloadn (pc := 6) (n := 1) 1 rfl rfl (fm_dec dtX11_drawer 4 rfl) ?_
  refine pv_iconst (pc := 7) (v := 0) (by decide) (fm_dec dtX11_drawer 5 rfl) ?_
  refine pv_aloadn (pc := 8) (n := 0) 0 rfl rfl (fm_dec dtX11_drawer 6 rfl) ?_
  refine pv_getI (k := 0) (j := 1) (ci := 11) (pc := 9) pfl_X11_104 (by decide) rfl (by decide) (fm_dec dtX11_drawer 7 rfl) ?_
  refine pv_iS3 (d' := 0) (pc := 12) pcs_X11_135 (Nat.le_of_ble_eq_true rfl) (by decide) (fm_dec dtX11_drawer 8 rfl) ?_
  refine c_in (fun h12a h12b => ?_) (fun h12 => ?_)
  · refine pv_then1 ?_
    refine pv_if_ne (pc := 15) 22 (by decide) (fm_dec dtX11_drawer 9 rfl) (fun _ => ?_) (fun hc15 => by exfalso; revert hc15; decide)
    refine pv_iconst (pc := 22) (v := 0) (by decide) (fm_dec dtX11_drawer 12 rfl) ?_
    refine pv_iconst (pc := 23) (v := 1) (by decide) (fm_dec dtX11_drawer 13 rfl) ?_
    refine pv_iconst (pc := 24) (v := 1) (by decide) (fm_dec dtX11_drawer 14 rfl) ?_
    refine pv_invV3 (k := 0) (d' := 0) (pc := 25) pcv_X11_177 (by decide) rfl (Nat.le_of_ble_eq_true rfl) (by decide) (fm_dec dtX11_drawer 15 rfl) ?_
    refine c_badF1 rfl ?_
    refine pv_then1 ?_
    refine pv_if_eq (pc := 28) 33 (by decide) (fm_dec dtX11_drawer 16 rfl) (fun _ => ?_) (fun hc28 => by exfalso; revert hc28; decide)
    obtain ⟨n0, hn0⟩ : ∃ n0 : Nat, nn.toInt = n0 := ⟨nn.toInt.toNat, by have h9 : (0 : Int32).toInt = 0 := (by decide); omega⟩
    have hnt : (n0 : Int) ≤ (M.1 0 1).toInt := (by have h9 : (nn.toInt : Int) ≤ ((fmI M 0 0 0).1 0 1).toInt := h12b; rw [hn0] at h9; exact h9)
    have hn6 : n0 ≤ 600 := (by omega)
    refine pv_aloadn (pc := 33) (n := 0) 0 rfl rfl (fm_dec dtX11_drawer 19 rfl) ?_
    refine pv_iloadn (pc := 34) (n := 1) 1 rfl rfl (fm_dec dtX11_drawer 20 rfl) ?_
    refine pv_invV1 (k := 0) (d' := 2) (pc := 35) pcv_X11_181 (by decide) rfl (Nat.le_of_ble_eq_true rfl) (by decide) (fm_dec dtX11_drawer 21 rfl) ?_
    refine c_starts (n := n0) (M := fmI M 0 0 0) hfed hn6 hn0 (fun M35 h35 => ?_) 
    refine pv_then0 ?_
    refine pv_aloadn (pc := 38) (n := 0) 0 rfl rfl (fm_dec dtX11_drawer 22 rfl) ?_
    refine pv_invV0 (k := 0) (d' := 0) (pc := 39) pcv_X11_95 (by decide) rfl (Nat.le_of_ble_eq_true rfl) (by decide) (fm_dec dtX11_drawer 23 rfl) ?_
    refine c_tellsNothing ?_
    refine pv_then0 ?_
    have hok9 := rT_ok (n := n0) hfed hn6
    have hs0 : sk (rT M n0) 0 ≤ n0 := sp_le tB_1 hok9 (Nat.zero_le _)
    have hne := fun a => dwL_fuel hok9 700 0 dD0 (sk (rT M n0) 0) hs0 dOk_0 (by omega) a
    refine dw_loop (tx := rT M n0) (n := n0) (M0 := M35) 700 (tnM M35) 0 (sk (rT M n0) 0) dD0 (h35.1.of rfl rfl rfl) h35.2.1 (by show (M35.1 0 7).toInt = _; rw [h35.2.2.2.1]; decide) (by decide) tn_rep dOk_0 tn_fr hne (fun M2 D2 e h1 h2 h3 h4 => ?_) (fun M2 k a e hB => ?_)
    · refine dw_e0 h3 h1 h2 (fun M3 h => ?_)
      refine hok n0 M35 M3 D2 _ hn0 hnt h35 e h2 ⟨?_, M2, h4, h⟩ h.1.1
      rw [h.2.2.2.2.1 3 (by decide) (by decide) (by decide) (by decide) (by decide), fmI_s]
    · have hk9 := dwL_bad hok9 700 0 dD0 _ (k, a) hs0 dOk_0 e (by intro h9; have h9 : k = 9 := h9; subst h9; exact hne a e)
      exact dw_e1 hB.nz (hbad n0 k a M35 _ _ hn0 hnt h35 e hk9 ⟨(by rw [fmI_s]; exact hB.2.2.1), M2, hB.2.2.2.2, rfl⟩ (law_r hB.2.1 hk9.1.2))
  · refine pv_then1 ?_
    refine pv_if_ne (pc := 15) 22 (by decide) (fm_dec dtX11_drawer 9 rfl) (fun hc15 => by exfalso; revert hc15; decide) (fun _ => ?_)
    refine pv_iconst (pc := 18) (v := 1) (by decide) (fm_dec dtX11_drawer 10 rfl) ?_
    refine pv_goto (pc := 19) 23 (by decide) (fm_dec dtX11_drawer 11 rfl) ?_
    refine pv_iconst (pc := 23) (v := 1) (by decide) (fm_dec dtX11_drawer 13 rfl) ?_
    refine pv_iconst (pc := 24) (v := 1) (by decide) (fm_dec dtX11_drawer 14 rfl) ?_
    refine pv_invV3 (k := 0) (d' := 0) (pc := 25) pcv_X11_177 (by decide) rfl (Nat.le_of_ble_eq_true rfl) (by decide) (fm_dec dtX11_drawer 15 rfl) ?_
    refine c_badT1 rfl (by decide) ?_
    refine pv_then1 ?_
    refine pv_if_eq (pc := 28) 33 (by decide) (fm_dec dtX11_drawer 16 rfl) (fun hc28 => by exfalso; revert hc28; decide) (fun _ => ?_)
    refine pv_iconst (pc := 31) (v := 0) (by decide) (fm_dec dtX11_drawer 17 rfl) ?_
    exact pv_ireturn (pc := 32) rfl (fm_dec dtX11_drawer 18 rfl) (href (by intro h9; exact h12 ⟨by have h8 : (0 : Int32).toInt = 0 := (by decide); rw [h8]; exact h9.1, h9.2⟩))
end
-- P 12l
section
def invMl : List (List scI) := [[(0, 2), (0, 600), ((-2147483648), 2147483647), ((-1), 600), ((-2147483648), 2147483647), ((-2147483648), 2147483647), ((-2147483648), 2147483647), ((-2147483648), 2147483647), ((-2147483648), 2147483647), ((-2147483648), 2147483647), ((-2147483648), 2147483647), ((-2147483648), 2147483647), ((-2147483648), 2147483647), ((-2147483648), 2147483647), ((-2147483648), 2147483647), ((-2147483648), 2147483647), ((-2147483648), 2147483647), ((-2147483648), 2147483647), ((-2147483648), 2147483647), ((-2147483648), 2147483647), ((-2147483648), 2147483647), ((-2147483648), 2147483647), ((-2147483648), 2147483647), ((-2147483648), 2147483647), ((-2147483648), 2147483647), ((-2147483648), 2147483647), ((-2147483648), 2147483647), ((-2147483648), 2147483647), ((-2147483648), 2147483647), ((-2147483648), 2147483647), ((-2147483648), 2147483647), (0, 6), (0, 16), ((-2147483648), 2147483647), (0, 3), ((-2147483648), 2147483647), ((-2147483648), 2147483647), ((-2147483648), 2147483647), ((-2147483648), 2147483647), ((-2147483648), 2147483647), ((-2147483648), 2147483647), ((-2147483648), 2147483647), ((-2147483648), 2147483647), ((-2147483648), 2147483647), ((-2147483648), 2147483647), ((-2147483648), 2147483647), ((-2147483648), 2147483647), ((-2147483648), 2147483647), ((-2147483648), 2147483647)], [(0, 255)], [((-2147483648), 2147483647)], [((-2147483648), 2147483647)], [(0, 8), (0, 24), (1, 12), (0, 9), (0, 9), (1, 4)], [((-2147483648), 2147483647)], [((-2147483648), 2147483647)], [((-2147483648), 2147483647), ((-1000), 200), ((-1000), 200), ((-1000), 200), ((-1000), 200), ((-1000), 200), ((-1000), 200), ((-1000), 200), ((-1000), 200), (0, 12), (0, 200), ((-2147483648), 2147483647), ((-2147483648), 2147483647), ((-2147483648), 2147483647)], [((-2147483648), 2147483647), ((-1000), 200), ((-1000), 200), ((-1000), 200), ((-1000), 200), ((-1000), 200), ((-1000), 200), ((-1000), 200), ((-1000), 200), ((-2147483648), 2147483647), (0, 200), ((-2147483648), 2147483647), ((-2147483648), 2147483647), ((-2147483648), 2147483647)], [((-2147483648), 2147483647)], [((-2147483648), 2147483647)], [((-2147483648), 2147483647)], [((-2147483648), 2147483647)], [(0, 9)], [(0, 99)], [(0, 99)], [((-2147483648), 2147483647)], [((-2147483648), 2147483647)], [((-2147483648), 2147483647)], [((-2147483648), 2147483647)], [((-2147483648), 2147483647)], [((-2147483648), 2147483647)], [((-2147483648), 2147483647)], [((-2147483648), 2147483647)], [((-2147483648), 2147483647)], [((-2147483648), 2147483647)], [((-2147483648), 2147483647)]]
def invMk : List scI := [(0, 16), ((-2147483648), 2147483647), ((-1000), 200), ((-1000), 200), ((-1000), 200), ((-1000), 200), ((-1000), 200), ((-1000), 200), ((-1000), 200), ((-1000), 200), (0, 12), (0, 200), ((-2147483648), 2147483647), ((-2147483648), 2147483647), ((-2147483648), 2147483647), ((-2147483648), 2147483647), ((-1000), 200), ((-1000), 200), ((-1000), 200), ((-1000), 200), ((-1000), 200), ((-1000), 200), ((-1000), 200), ((-1000), 200), (0, 12), (0, 200), ((-2147483648), 2147483647), ((-2147483648), 2147483647), ((-2147483648), 2147483647), ((-2147483648), 2147483647), ((-1000), 200), ((-1000), 200), ((-1000), 200), ((-1000), 200), ((-1000), 200), ((-1000), 200), ((-1000), 200), ((-1000), 200), (0, 12), (0, 200), ((-2147483648), 2147483647), ((-2147483648), 2147483647), ((-2147483648), 2147483647), ((-2147483648), 2147483647), ((-1000), 200), ((-1000), 200), ((-1000), 200), ((-1000), 200), ((-1000), 200), ((-1000), 200), ((-1000), 200), ((-1000), 200), (0, 12), (0, 200), ((-2147483648), 2147483647), ((-2147483648), 2147483647), ((-2147483648), 2147483647), ((-2147483648), 2147483647), ((-1000), 200), ((-1000), 200), ((-1000), 200), ((-1000), 200), ((-1000), 200), ((-1000), 200), ((-1000), 200), ((-1000), 200), (0, 12), (0, 200), ((-2147483648), 2147483647), ((-2147483648), 2147483647), ((-2147483648), 2147483647), ((-2147483648), 2147483647), ((-1000), 200), ((-1000), 200), ((-1000), 200), ((-1000), 200), ((-1000), 200), ((-1000), 200), ((-1000), 200), ((-1000), 200), (0, 12), (0, 200), ((-2147483648), 2147483647), ((-2147483648), 2147483647), ((-2147483648), 2147483647), ((-2147483648), 2147483647), ((-1000), 200), ((-1000), 200), ((-1000), 200), ((-1000), 200), ((-1000), 200), ((-1000), 200), ((-1000), 200), ((-1000), 200), (0, 12), (0, 200), ((-2147483648), 2147483647), ((-2147483648), 2147483647), ((-2147483648), 2147483647), ((-2147483648), 2147483647), ((-1000), 200), ((-1000), 200), ((-1000), 200), ((-1000), 200), ((-1000), 200), ((-1000), 200), ((-1000), 200), ((-1000), 200), (0, 12), (0, 200), ((-2147483648), 2147483647), ((-2147483648), 2147483647), ((-2147483648), 2147483647), ((-2147483648), 2147483647), ((-1000), 200), ((-1000), 200), ((-1000), 200), ((-1000), 200), ((-1000), 200), ((-1000), 200), ((-1000), 200), ((-1000), 200), (0, 12), (0, 200), ((-2147483648), 2147483647), ((-2147483648), 2147483647), ((-2147483648), 2147483647), ((-2147483648), 2147483647), ((-1000), 200), ((-1000), 200), ((-1000), 200), ((-1000), 200), ((-1000), 200), ((-1000), 200), ((-1000), 200), ((-1000), 200), (0, 12), (0, 200), ((-2147483648), 2147483647), ((-2147483648), 2147483647), ((-2147483648), 2147483647), ((-2147483648), 2147483647), ((-1000), 200), ((-1000), 200), ((-1000), 200), ((-1000), 200), ((-1000), 200), ((-1000), 200), ((-1000), 200), ((-1000), 200), (0, 12), (0, 200), ((-2147483648), 2147483647), ((-2147483648), 2147483647), ((-2147483648), 2147483647), ((-2147483648), 2147483647), ((-1000), 200), ((-1000), 200), ((-1000), 200), ((-1000), 200), ((-1000), 200), ((-1000), 200), ((-1000), 200), ((-1000), 200), (0, 12), (0, 200), ((-2147483648), 2147483647), ((-2147483648), 2147483647), ((-2147483648), 2147483647), ((-2147483648), 2147483647), ((-1000), 200), ((-1000), 200), ((-1000), 200), ((-1000), 200), ((-1000), 200), ((-1000), 200), ((-1000), 200), ((-1000), 200), (0, 12), (0, 200), ((-2147483648), 2147483647), ((-2147483648), 2147483647), ((-2147483648), 2147483647), ((-2147483648), 2147483647), ((-1000), 200), ((-1000), 200), ((-1000), 200), ((-1000), 200), ((-1000), 200), ((-1000), 200), ((-1000), 200), ((-1000), 200), (0, 12), (0, 200), ((-2147483648), 2147483647), ((-2147483648), 2147483647), ((-2147483648), 2147483647), ((-2147483648), 2147483647), ((-1000), 200), ((-1000), 200), ((-1000), 200), ((-1000), 200), ((-1000), 200), ((-1000), 200), ((-1000), 200), ((-1000), 200), (0, 12), (0, 200), ((-2147483648), 2147483647), ((-2147483648), 2147483647), ((-2147483648), 2147483647), ((-2147483648), 2147483647), ((-1000), 200), ((-1000), 200), ((-1000), 200), ((-1000), 200), ((-1000), 200), ((-1000), 200), ((-1000), 200), ((-1000), 200), (0, 12), (0, 200), ((-2147483648), 2147483647), ((-2147483648), 2147483647), ((-2147483648), 2147483647), ((-2147483648), 2147483647), ((-1000), 200), ((-1000), 200), ((-1000), 200), ((-1000), 200), ((-1000), 200), ((-1000), 200), ((-1000), 200), ((-1000), 200), (0, 12), (0, 200), ((-2147483648), 2147483647), ((-2147483648), 2147483647), ((-2147483648), 2147483647)]
def invM (k : Nat) : List scI := if k = 999 then [(1, 1)] else if k < 27 then invMl.getD k [scTop] else if k < 35 then [((-2147483648), 2147483647)] else if k < 43 then [(0, 110), (0, 64), (0, 99), (0, 9), ((-1), 40), ((-1), 7)] else if k < 67 then [((-2147483648), 2147483647)] else if k < 91 then [(0, 7), (0, 5), (0, 60)] else if k < 251 then [((-2147483648), 2147483647)] else if k < 411 then [((-2147483648), 2147483647)] else if k < 417 then [(0, 5), (0, 1)] else if k < 423 then [((-2147483648), 2147483647)] else if k < 503 then [((-2147483648), 2147483647)] else if k < 519 then [((-2147483648), 2147483647), ((-1000), 200), ((-1000), 200), ((-1000), 200), ((-1000), 200), ((-1000), 200), ((-1000), 200), ((-1000), 200), ((-1000), 200), (0, 12), (0, 200), ((-2147483648), 2147483647), ((-2147483648), 2147483647), ((-2147483648), 2147483647)] else if k < 522 then invMk else [scTop]
end
