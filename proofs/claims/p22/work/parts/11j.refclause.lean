-- THE REFERENCE READS A CLAUSE
def clI (M0 M : fmM) : Prop := clFr M0 M ∧ M.1 0 7 = M0.1 0 7 + 1
theorem clI.rd {M M1 M2 : fmM} (h : clI M M1) (h' : rdFr M1 M2) : clI M M2 := ⟨h.1.rd h', (h'.2.1 7 (by decide) (by decide) (by decide)).trans h.2⟩
theorem clI.row {M M1 : fmM} {k j : Nat} {x : Int32} (h : clI M M1) (hk : k = 3 ∨ (27 ≤ k ∧ k < 35) ∨ (43 ≤ k ∧ k < 67)) : clI M (fmI M1 k j x) := ⟨h.1.row hk, by rw [fmI_k _ _ (by omega)]; exact h.2⟩
theorem clI.at0 {M : fmM} {x : Int32} : clI M (fmI (fmI M 0 4 x) 0 7 ((fmI M 0 4 x).1 0 7 + 1)) := by
  refine ⟨⟨fun k' j' a b c d => ?_, fun j' a b c d => ?_, rfl⟩, ?_⟩
  · rw [fmI_k _ _ a, fmI_k _ _ a]
  · rw [fmI_j _ _ d, fmI_j _ _ a]
  · rw [fmI_s, fmI_j _ _ (by decide)]
theorem dRep.at0 {M : fmM} {D : dD} {j : Nat} {x : Int32} (h : dRep M D) : dRep (fmI M 0 j x) D := by
  obtain ⟨h1, h2, h3, h4, h5⟩ := h
  refine ⟨?_, ?_, fun k a b => ?_, fun i hi j hj => ?_, fun i hi j hj => ?_⟩
  · rw [fmI_k _ _ (by decide)]; exact h1
  · rw [fmI_k _ _ (by decide)]; exact h2
  · rw [fmI_k _ _ (by decide)]; exact h3 k a b
  · rw [fmI_k _ _ (by omega)]; exact h4 i hi j hj
  · rw [fmI_k _ _ (by omega)]; exact h5 i hi j hj
theorem spNum_sk {tx : tX} {n q : Nat} {lo hi : Int} (ht : tOk tx n) (hq : q ≤ n) : spNum tx lo hi (sk tx q) = spNum tx lo hi q := by
  unfold spNum
  rw [sk_sk ht hq]
theorem lh_hi {x : Int32} {l : Nat} (h : x.toInt = l) (hl : l ≤ 8) : (x - 1).toInt = (l : Int) - 1 := by
  have e1 : (1 : Int32).toInt = 1 := by decide
  rw [Int32.toInt_sub, e1, h]
  exact Int.bmod_eq_of_le (by omega) (by omega)
theorem ne60 {x : Int32} {c : Nat} (h : x.toInt = c) (hc : ¬ x = 60) : ¬ c = 60 := fun e => hc (i32_ext (by rw [h, e]; decide))
theorem eq60 {x : Int32} {c : Nat} (h : x.toInt = c) (hc : x = 60) : c = 60 := by
  have e1 : (60 : Int32).toInt = 60 := by decide
  rw [hc, e1] at h
  omega
theorem ne8 {x : Int32} {c : Nat} (h : x.toInt = c) (hc : ¬ x = 8) : ¬ c = 8 := fun e => hc (i32_ext (by rw [h, e]; decide))
theorem eq8 {x : Int32} {c : Nat} (h : x.toInt = c) (hc : x = 8) : c = 8 := by
  have e1 : (8 : Int32).toInt = 8 := by decide
  rw [hc, e1] at h
  omega
theorem ne24 {x : Int32} {c : Nat} (h : x.toInt = c) (hc : ¬ x = 24) : ¬ c = 24 := fun e => hc (i32_ext (by rw [h, e]; decide))
theorem eq24 {x : Int32} {c : Nat} (h : x.toInt = c) (hc : x = 24) : c = 24 := by
  have e1 : (24 : Int32).toInt = 24 := by decide
  rw [hc, e1] at h
  omega
set_option maxRecDepth 20000 in
theorem c_kindHere {M : fmM} {Q : fmR → fmM → Prop} {tx : tX} {n p : Nat} (hS : rS M tx n p) (hf : M.1 0 5 = 0) (h_0 : ∀ x : Int32, dwK (wd tx (sk tx p)) = some 0 → x.toInt = sk tx p → Q (.inl (some (.int 0))) (fmI M 0 4 x)) (h_1 : ∀ x : Int32, dwK (wd tx (sk tx p)) = some 1 → x.toInt = sk tx p → Q (.inl (some (.int 1))) (fmI M 0 4 x)) (h_2 : ∀ x : Int32, dwK (wd tx (sk tx p)) = some 2 → x.toInt = sk tx p → Q (.inl (some (.int 2))) (fmI M 0 4 x)) (h_3 : ∀ x : Int32, dwK (wd tx (sk tx p)) = some 3 → x.toInt = sk tx p → Q (.inl (some (.int 3))) (fmI M 0 4 x)) (h_4 : ∀ x : Int32, dwK (wd tx (sk tx p)) = some 4 → x.toInt = sk tx p → Q (.inl (some (.int 4))) (fmI M 0 4 x)) (h_5 : ∀ x : Int32, dwK (wd tx (sk tx p)) = some 5 → x.toInt = sk tx p → Q (.inl (some (.int 5))) (fmI M 0 4 x)) (h_6 : ∀ x : Int32, dwK (wd tx (sk tx p)) = some 6 → x.toInt = sk tx p → Q (.inl (some (.int 6))) (fmI M 0 4 x)) (h_7 : ∀ x : Int32, dwK (wd tx (sk tx p)) = some 7 → x.toInt = sk tx p → Q (.inl (some (.int 7))) (fmI M 0 4 x)) (hn : ∀ x : Int32, dwK (wd tx (sk tx p)) = none → x.toInt = sk tx p → Q (.inl (some (.int (-1)))) (fmI M 0 4 x)) : pvGood Tm 4 qX11_kindHere [.ref 0] M Q := by
  refine pvGood_of (Nat.le_of_ble_eq_true rfl) ?_
  show pvEv Tm 4 qX11_kindHere 0 [some (.ref 0)] [] M Q
  refine pv_aloadn (pc := 0) (n := 0) 0 rfl rfl (fm_dec dtX11_kindHere 0 rfl) ?_
  refine pv_bipush (pc := 1) (v := 12) (by decide) (fm_dec dtX11_kindHere 1 rfl) ?_
  refine pv_bipush (pc := 3) (v := 9) (by decide) (fm_dec dtX11_kindHere 2 rfl) ?_
  refine pv_bipush (pc := 5) (v := 6) (by decide) (fm_dec dtX11_kindHere 3 rfl) ?_
  refine pv_iconst (pc := 7) (v := 5) (by decide) (fm_dec dtX11_kindHere 4 rfl) ?_
  refine pv_iconst (pc := 8) (v := 0) (by decide) (fm_dec dtX11_kindHere 5 rfl) ?_
  refine pv_invV5 (k := 0) (d' := 3) (pc := 9) pcv_X11_150 (by decide) rfl (Nat.le_of_ble_eq_true rfl) (by decide) (fm_dec dtX11_kindHere 6 rfl) ?_
  refine c_isWord [108, 105, 102, 101] ⟨by decide, by decide, by decide⟩ hS hf (fun x9 e9 hx9 => ?_) (fun x9 e9 hx9 => ?_)
  · refine pv_then1 ?_
    refine pv_if_eq (pc := 12) 17 (by decide) (fm_dec dtX11_kindHere 7 rfl) (fun hc12 => by exfalso; revert hc12; decide) (fun _ => ?_)
    refine pv_iconst (pc := 15) (v := 0) (by decide) (fm_dec dtX11_kindHere 8 rfl) ?_
    exact pv_ireturn (pc := 16) rfl (fm_dec dtX11_kindHere 9 rfl) (by (try simp only [fmI_fmI]); exact h_0 x9 (by unfold dwK; rw [if_pos e9]) hx9)
  · refine pv_then1 ?_
    refine pv_if_eq (pc := 12) 17 (by decide) (fm_dec dtX11_kindHere 7 rfl) (fun _ => ?_) (fun hc12 => by exfalso; revert hc12; decide)
    have hS1 := hS.set hx9 (hS.bl hx9).2.2.1
    refine pv_aloadn (pc := 17) (n := 0) 0 rfl rfl (fm_dec dtX11_kindHere 10 rfl) ?_
    refine pv_bipush (pc := 18) (v := 6) (by decide) (fm_dec dtX11_kindHere 11 rfl) ?_
    refine pv_iconst (pc := 20) (v := 1) (by decide) (fm_dec dtX11_kindHere 12 rfl) ?_
    refine pv_iconst (pc := 21) (v := 3) (by decide) (fm_dec dtX11_kindHere 13 rfl) ?_
    refine pv_bipush (pc := 22) (v := 20) (by decide) (fm_dec dtX11_kindHere 14 rfl) ?_
    refine pv_iconst (pc := 24) (v := 0) (by decide) (fm_dec dtX11_kindHere 15 rfl) ?_
    refine pv_invV5 (k := 0) (d' := 3) (pc := 25) pcv_X11_150 (by decide) rfl (Nat.le_of_ble_eq_true rfl) (by decide) (fm_dec dtX11_kindHere 16 rfl) ?_
    refine c_isWord [102, 97, 99, 116] ⟨by decide, by decide, by decide⟩ hS1 hf (fun x25 e25 hx25 => ?_) (fun x25 e25 hx25 => ?_)
    · refine pv_then1 ?_
      refine pv_if_eq (pc := 28) 33 (by decide) (fm_dec dtX11_kindHere 17 rfl) (fun hc28 => by exfalso; revert hc28; decide) (fun _ => ?_)
      refine pv_iconst (pc := 31) (v := 1) (by decide) (fm_dec dtX11_kindHere 18 rfl) ?_
      exact pv_ireturn (pc := 32) rfl (fm_dec dtX11_kindHere 19 rfl) (by rw [sk_sk hS.2.2.2.1 hS.2.2.1] at e25 hx25; (try simp only [fmI_fmI]); exact h_1 x25 (by unfold dwK; rw [if_neg e9]; rw [if_pos e25]) hx25)
    · refine pv_then1 ?_
      refine pv_if_eq (pc := 28) 33 (by decide) (fm_dec dtX11_kindHere 17 rfl) (fun _ => ?_) (fun hc28 => by exfalso; revert hc28; decide)
      rw [sk_sk hS.2.2.2.1 hS.2.2.1] at e25 hx25
      have hS2 := hS1.set hx25 hS1.2.2.1
      refine pv_aloadn (pc := 33) (n := 0) 0 rfl rfl (fm_dec dtX11_kindHere 20 rfl) ?_
      refine pv_bipush (pc := 34) (v := 8) (by decide) (fm_dec dtX11_kindHere 21 rfl) ?_
      refine pv_bipush (pc := 36) (v := 15) (by decide) (fm_dec dtX11_kindHere 22 rfl) ?_
      refine pv_bipush (pc := 38) (v := 21) (by decide) (fm_dec dtX11_kindHere 23 rfl) ?_
      refine pv_bipush (pc := 40) (v := 18) (by decide) (fm_dec dtX11_kindHere 24 rfl) ?_
      refine pv_bipush (pc := 42) (v := 19) (by decide) (fm_dec dtX11_kindHere 25 rfl) ?_
      refine pv_invV5 (k := 0) (d' := 3) (pc := 44) pcv_X11_150 (by decide) rfl (Nat.le_of_ble_eq_true rfl) (by decide) (fm_dec dtX11_kindHere 26 rfl) ?_
      refine c_isWord [104, 111, 117, 114, 115] ⟨by decide, by decide, by decide⟩ hS2 hf (fun x44 e44 hx44 => ?_) (fun x44 e44 hx44 => ?_)
      · refine pv_then1 ?_
        refine pv_if_eq (pc := 47) 52 (by decide) (fm_dec dtX11_kindHere 27 rfl) (fun hc47 => by exfalso; revert hc47; decide) (fun _ => ?_)
        refine pv_iconst (pc := 50) (v := 2) (by decide) (fm_dec dtX11_kindHere 28 rfl) ?_
        exact pv_ireturn (pc := 51) rfl (fm_dec dtX11_kindHere 29 rfl) (by rw [sk_sk hS.2.2.2.1 hS.2.2.1] at e44 hx44; (try simp only [fmI_fmI]); exact h_2 x44 (by unfold dwK; rw [if_neg e9]; rw [if_neg e25]; rw [if_pos e44]) hx44)
      · refine pv_then1 ?_
        refine pv_if_eq (pc := 47) 52 (by decide) (fm_dec dtX11_kindHere 27 rfl) (fun _ => ?_) (fun hc47 => by exfalso; revert hc47; decide)
        rw [sk_sk hS.2.2.2.1 hS.2.2.1] at e44 hx44
        have hS3 := hS2.set hx44 hS1.2.2.1
        refine pv_aloadn (pc := 52) (n := 0) 0 rfl rfl (fm_dec dtX11_kindHere 30 rfl) ?_
        refine pv_bipush (pc := 53) (v := 12) (by decide) (fm_dec dtX11_kindHere 31 rfl) ?_
        refine pv_iconst (pc := 55) (v := 1) (by decide) (fm_dec dtX11_kindHere 32 rfl) ?_
        refine pv_iconst (pc := 56) (v := 3) (by decide) (fm_dec dtX11_kindHere 33 rfl) ?_
        refine pv_bipush (pc := 57) (v := 11) (by decide) (fm_dec dtX11_kindHere 34 rfl) ?_
        refine pv_iconst (pc := 59) (v := 0) (by decide) (fm_dec dtX11_kindHere 35 rfl) ?_
        refine pv_invV5 (k := 0) (d' := 3) (pc := 60) pcv_X11_150 (by decide) rfl (Nat.le_of_ble_eq_true rfl) (by decide) (fm_dec dtX11_kindHere 36 rfl) ?_
        refine c_isWord [108, 97, 99, 107] ⟨by decide, by decide, by decide⟩ hS3 hf (fun x60 e60 hx60 => ?_) (fun x60 e60 hx60 => ?_)
        · refine pv_then1 ?_
          refine pv_if_eq (pc := 63) 68 (by decide) (fm_dec dtX11_kindHere 37 rfl) (fun hc63 => by exfalso; revert hc63; decide) (fun _ => ?_)
          refine pv_iconst (pc := 66) (v := 3) (by decide) (fm_dec dtX11_kindHere 38 rfl) ?_
          exact pv_ireturn (pc := 67) rfl (fm_dec dtX11_kindHere 39 rfl) (by rw [sk_sk hS.2.2.2.1 hS.2.2.1] at e60 hx60; (try simp only [fmI_fmI]); exact h_3 x60 (by unfold dwK; rw [if_neg e9]; rw [if_neg e25]; rw [if_neg e44]; rw [if_pos e60]) hx60)
        · refine pv_then1 ?_
          refine pv_if_eq (pc := 63) 68 (by decide) (fm_dec dtX11_kindHere 37 rfl) (fun _ => ?_) (fun hc63 => by exfalso; revert hc63; decide)
          rw [sk_sk hS.2.2.2.1 hS.2.2.1] at e60 hx60
          have hS4 := hS3.set hx60 hS1.2.2.1
          refine pv_aloadn (pc := 68) (n := 0) 0 rfl rfl (fm_dec dtX11_kindHere 40 rfl) ?_
          refine pv_bipush (pc := 69) (v := 23) (by decide) (fm_dec dtX11_kindHere 41 rfl) ?_
          refine pv_bipush (pc := 71) (v := 18) (by decide) (fm_dec dtX11_kindHere 42 rfl) ?_
          refine pv_bipush (pc := 73) (v := 15) (by decide) (fm_dec dtX11_kindHere 43 rfl) ?_
          refine pv_bipush (pc := 75) (v := 14) (by decide) (fm_dec dtX11_kindHere 44 rfl) ?_
          refine pv_bipush (pc := 77) (v := 7) (by decide) (fm_dec dtX11_kindHere 45 rfl) ?_
          refine pv_invV5 (k := 0) (d' := 3) (pc := 79) pcv_X11_150 (by decide) rfl (Nat.le_of_ble_eq_true rfl) (by decide) (fm_dec dtX11_kindHere 46 rfl) ?_
          refine c_isWord [119, 114, 111, 110, 103] ⟨by decide, by decide, by decide⟩ hS4 hf (fun x79 e79 hx79 => ?_) (fun x79 e79 hx79 => ?_)
          · refine pv_then1 ?_
            refine pv_if_eq (pc := 82) 87 (by decide) (fm_dec dtX11_kindHere 47 rfl) (fun hc82 => by exfalso; revert hc82; decide) (fun _ => ?_)
            refine pv_iconst (pc := 85) (v := 4) (by decide) (fm_dec dtX11_kindHere 48 rfl) ?_
            exact pv_ireturn (pc := 86) rfl (fm_dec dtX11_kindHere 49 rfl) (by rw [sk_sk hS.2.2.2.1 hS.2.2.1] at e79 hx79; (try simp only [fmI_fmI]); exact h_4 x79 (by unfold dwK; rw [if_neg e9]; rw [if_neg e25]; rw [if_neg e44]; rw [if_neg e60]; rw [if_pos e79]) hx79)
          · refine pv_then1 ?_
            refine pv_if_eq (pc := 82) 87 (by decide) (fm_dec dtX11_kindHere 47 rfl) (fun _ => ?_) (fun hc82 => by exfalso; revert hc82; decide)
            rw [sk_sk hS.2.2.2.1 hS.2.2.1] at e79 hx79
            have hS5 := hS4.set hx79 hS1.2.2.1
            refine pv_aloadn (pc := 87) (n := 0) 0 rfl rfl (fm_dec dtX11_kindHere 50 rfl) ?_
            refine pv_bipush (pc := 88) (v := 8) (by decide) (fm_dec dtX11_kindHere 51 rfl) ?_
            refine pv_iconst (pc := 90) (v := 1) (by decide) (fm_dec dtX11_kindHere 52 rfl) ?_
            refine pv_bipush (pc := 91) (v := 12) (by decide) (fm_dec dtX11_kindHere 53 rfl) ?_
            refine pv_bipush (pc := 93) (v := 6) (by decide) (fm_dec dtX11_kindHere 54 rfl) ?_
            refine pv_iconst (pc := 95) (v := 0) (by decide) (fm_dec dtX11_kindHere 55 rfl) ?_
            refine pv_invV5 (k := 0) (d' := 3) (pc := 96) pcv_X11_150 (by decide) rfl (Nat.le_of_ble_eq_true rfl) (by decide) (fm_dec dtX11_kindHere 56 rfl) ?_
            refine c_isWord [104, 97, 108, 102] ⟨by decide, by decide, by decide⟩ hS5 hf (fun x96 e96 hx96 => ?_) (fun x96 e96 hx96 => ?_)
            · refine pv_then1 ?_
              refine pv_if_eq (pc := 99) 104 (by decide) (fm_dec dtX11_kindHere 57 rfl) (fun hc99 => by exfalso; revert hc99; decide) (fun _ => ?_)
              refine pv_iconst (pc := 102) (v := 5) (by decide) (fm_dec dtX11_kindHere 58 rfl) ?_
              exact pv_ireturn (pc := 103) rfl (fm_dec dtX11_kindHere 59 rfl) (by rw [sk_sk hS.2.2.2.1 hS.2.2.1] at e96 hx96; (try simp only [fmI_fmI]); exact h_5 x96 (by unfold dwK; rw [if_neg e9]; rw [if_neg e25]; rw [if_neg e44]; rw [if_neg e60]; rw [if_neg e79]; rw [if_pos e96]) hx96)
            · refine pv_then1 ?_
              refine pv_if_eq (pc := 99) 104 (by decide) (fm_dec dtX11_kindHere 57 rfl) (fun _ => ?_) (fun hc99 => by exfalso; revert hc99; decide)
              rw [sk_sk hS.2.2.2.1 hS.2.2.1] at e96 hx96
              have hS6 := hS5.set hx96 hS1.2.2.1
              refine pv_aloadn (pc := 104) (n := 0) 0 rfl rfl (fm_dec dtX11_kindHere 60 rfl) ?_
              refine pv_bipush (pc := 105) (v := 8) (by decide) (fm_dec dtX11_kindHere 61 rfl) ?_
              refine pv_iconst (pc := 107) (v := 1) (by decide) (fm_dec dtX11_kindHere 62 rfl) ?_
              refine pv_bipush (pc := 108) (v := 19) (by decide) (fm_dec dtX11_kindHere 63 rfl) ?_
              refine pv_iconst (pc := 110) (v := 0) (by decide) (fm_dec dtX11_kindHere 64 rfl) ?_
              refine pv_iconst (pc := 111) (v := 0) (by decide) (fm_dec dtX11_kindHere 65 rfl) ?_
              refine pv_invV5 (k := 0) (d' := 3) (pc := 112) pcv_X11_150 (by decide) rfl (Nat.le_of_ble_eq_true rfl) (by decide) (fm_dec dtX11_kindHere 66 rfl) ?_
              refine c_isWord [104, 97, 115] ⟨by decide, by decide, by decide⟩ hS6 hf (fun x112 e112 hx112 => ?_) (fun x112 e112 hx112 => ?_)
              · refine pv_then1 ?_
                refine pv_if_eq (pc := 115) 121 (by decide) (fm_dec dtX11_kindHere 67 rfl) (fun hc115 => by exfalso; revert hc115; decide) (fun _ => ?_)
                refine pv_bipush (pc := 118) (v := 6) (by decide) (fm_dec dtX11_kindHere 68 rfl) ?_
                exact pv_ireturn (pc := 120) rfl (fm_dec dtX11_kindHere 69 rfl) (by rw [sk_sk hS.2.2.2.1 hS.2.2.1] at e112 hx112; (try simp only [fmI_fmI]); exact h_6 x112 (by unfold dwK; rw [if_neg e9]; rw [if_neg e25]; rw [if_neg e44]; rw [if_neg e60]; rw [if_neg e79]; rw [if_neg e96]; rw [if_pos e112]) hx112)
              · refine pv_then1 ?_
                refine pv_if_eq (pc := 115) 121 (by decide) (fm_dec dtX11_kindHere 67 rfl) (fun _ => ?_) (fun hc115 => by exfalso; revert hc115; decide)
                rw [sk_sk hS.2.2.2.1 hS.2.2.1] at e112 hx112
                have hS7 := hS6.set hx112 hS1.2.2.1
                refine pv_aloadn (pc := 121) (n := 0) 0 rfl rfl (fm_dec dtX11_kindHere 70 rfl) ?_
                refine pv_iconst (pc := 122) (v := 2) (by decide) (fm_dec dtX11_kindHere 71 rfl) ?_
                refine pv_bipush (pc := 123) (v := 25) (by decide) (fm_dec dtX11_kindHere 72 rfl) ?_
                refine pv_iconst (pc := 125) (v := 0) (by decide) (fm_dec dtX11_kindHere 73 rfl) ?_
                refine pv_iconst (pc := 126) (v := 0) (by decide) (fm_dec dtX11_kindHere 74 rfl) ?_
                refine pv_iconst (pc := 127) (v := 0) (by decide) (fm_dec dtX11_kindHere 75 rfl) ?_
                refine pv_invV5 (k := 0) (d' := 3) (pc := 128) pcv_X11_150 (by decide) rfl (Nat.le_of_ble_eq_true rfl) (by decide) (fm_dec dtX11_kindHere 76 rfl) ?_
                refine c_isWord [98, 121] ⟨by decide, by decide, by decide⟩ hS7 hf (fun x128 e128 hx128 => ?_) (fun x128 e128 hx128 => ?_)
                · refine pv_then1 ?_
                  refine pv_if_eq (pc := 131) 139 (by decide) (fm_dec dtX11_kindHere 77 rfl) (fun hc131 => by exfalso; revert hc131; decide) (fun _ => ?_)
                  refine pv_bipush (pc := 134) (v := 7) (by decide) (fm_dec dtX11_kindHere 78 rfl) ?_
                  refine pv_goto (pc := 136) 140 (by decide) (fm_dec dtX11_kindHere 79 rfl) ?_
                  exact pv_ireturn (pc := 140) rfl (fm_dec dtX11_kindHere 81 rfl) (by rw [sk_sk hS.2.2.2.1 hS.2.2.1] at e128 hx128; (try simp only [fmI_fmI]); first | exact h_7 x128 (by unfold dwK; rw [if_neg e9]; rw [if_neg e25]; rw [if_neg e44]; rw [if_neg e60]; rw [if_neg e79]; rw [if_neg e96]; rw [if_neg e112]; rw [if_pos e128]) hx128 | exact hn x128 (by unfold dwK; rw [if_neg e9, if_neg e25, if_neg e44, if_neg e60, if_neg e79, if_neg e96, if_neg e112, if_neg e128]) hx128)
                · refine pv_then1 ?_
                  refine pv_if_eq (pc := 131) 139 (by decide) (fm_dec dtX11_kindHere 77 rfl) (fun _ => ?_) (fun hc131 => by exfalso; revert hc131; decide)
                  refine pv_iconst (pc := 139) (v := (-1)) (by decide) (fm_dec dtX11_kindHere 80 rfl) ?_
                  exact pv_ireturn (pc := 140) rfl (fm_dec dtX11_kindHere 81 rfl) (by rw [sk_sk hS.2.2.2.1 hS.2.2.1] at e128 hx128; (try simp only [fmI_fmI]); first | exact h_7 x128 (by unfold dwK; rw [if_neg e9]; rw [if_neg e25]; rw [if_neg e44]; rw [if_neg e60]; rw [if_neg e79]; rw [if_neg e96]; rw [if_neg e112]; rw [if_pos e128]) hx128 | exact hn x128 (by unfold dwK; rw [if_neg e9, if_neg e25, if_neg e44, if_neg e60, if_neg e79, if_neg e96, if_neg e112, if_neg e128]) hx128)
set_option maxRecDepth 20000 in
theorem c_lifeHere {M : fmM} {Q : fmR → fmM → Prop} {tx : tX} {n p l : Nat} (hS : rS M tx n p) (hf : M.1 0 5 = 0) (h0 : (M.1 3 0).toInt = l) (hl : l ≤ 8) (hok : ∀ (M' : fmM) (v q : Nat) (w : Int32), spNum tx 0 ((l : Int) - 1) p = .inr (v, q) → w.toInt = v → rdOk M M' tx n q → Q (.inl (some (.int w))) M') (hbad : ∀ (M' : fmM) (k a : Nat), spNum tx 0 ((l : Int) - 1) p = .inl (k, a) → rdBad M M' tx n k a → Q (.inl (some (.int 0))) M') : pvGood Tm 3 qX11_lifeHere [.ref 0] M Q := by
  refine pvGood_of (Nat.le_of_ble_eq_true rfl) ?_
  show pvEv Tm 3 qX11_lifeHere 0 [some (.ref 0)] [] M Q
  refine pv_aloadn (pc := 0) (n := 0) 0 rfl rfl (fm_dec dtX11_lifeHere 0 rfl) ?_
  refine pv_iconst (pc := 1) (v := 0) (by decide) (fm_dec dtX11_lifeHere 1 rfl) ?_
  refine pv_aloadn (pc := 2) (n := 0) 0 rfl rfl (fm_dec dtX11_lifeHere 2 rfl) ?_
  refine pv_getR (k := 0) (j := 11) (ci := 11) (pc := 3) 3 rfl (by decide) pfl_X11_20 (by decide) rfl (by decide) (fm_dec dtX11_lifeHere 3 rfl) ?_
  refine pv_iconst (pc := 6) (v := 0) (by decide) (fm_dec dtX11_lifeHere 4 rfl) ?_
  refine pv_iald (k := 3) (n := 6) (pc := 7) (by decide) rfl rfl (fm_inl (by decide)) (fm_dec dtX11_lifeHere 5 rfl) ?_
  refine pv_iconst (pc := 8) (v := 1) (by decide) (fm_dec dtX11_lifeHere 6 rfl) ?_
  refine pv_isub (pc := 9) (fm_dec dtX11_lifeHere 7 rfl) ?_
  refine pv_invV2 (k := 0) (d' := 2) (pc := 10) pcv_X11_163 (by decide) rfl (Nat.le_of_ble_eq_true rfl) (by decide) (fm_dec dtX11_lifeHere 8 rfl) ?_
  refine r_num 0 ((l : Int) - 1) ⟨by decide, lh_hi h0 hl, by omega⟩ hS hf (fun M10 v10 q10 w10 e10 hw10 k10 => ?_) (fun Mb kb ab eb hB => ?_)  
  · refine pv_then1 ?_
    exact pv_ireturn (pc := 13) rfl (fm_dec dtX11_lifeHere 9 rfl) (hok _ _ _ _ e10 hw10 k10)
  · refine pv_then1 ?_
    exact pv_ireturn (pc := 13) rfl (fm_dec dtX11_lifeHere 9 rfl) (hbad _ _ _ eb hB)
set_option maxRecDepth 20000 in
theorem c_lifeHere1 {M : fmM} {Q : fmR → fmM → Prop}  (hf : ¬ M.1 0 5 = 0) (hq : Q (.inl (some (.int 0))) M) : pvGood Tm 3 qX11_lifeHere [.ref 0] M Q := by
  refine pvGood_of (Nat.le_of_ble_eq_true rfl) ?_
  show pvEv Tm 3 qX11_lifeHere 0 [some (.ref 0)] [] M Q
  refine pv_aloadn (pc := 0) (n := 0) 0 rfl rfl (fm_dec dtX11_lifeHere 0 rfl) ?_
  refine pv_iconst (pc := 1) (v := 0) (by decide) (fm_dec dtX11_lifeHere 1 rfl) ?_
  refine pv_aloadn (pc := 2) (n := 0) 0 rfl rfl (fm_dec dtX11_lifeHere 2 rfl) ?_
  refine pv_getR (k := 0) (j := 11) (ci := 11) (pc := 3) 3 rfl (by decide) pfl_X11_20 (by decide) rfl (by decide) (fm_dec dtX11_lifeHere 3 rfl) ?_
  refine pv_iconst (pc := 6) (v := 0) (by decide) (fm_dec dtX11_lifeHere 4 rfl) ?_
  refine pv_iald (k := 3) (n := 6) (pc := 7) (by decide) rfl rfl (fm_inl (by decide)) (fm_dec dtX11_lifeHere 5 rfl) ?_
  refine pv_iconst (pc := 8) (v := 1) (by decide) (fm_dec dtX11_lifeHere 6 rfl) ?_
  refine pv_isub (pc := 9) (fm_dec dtX11_lifeHere 7 rfl) ?_
  refine pv_invV2 (k := 0) (d' := 2) (pc := 10) pcv_X11_163 (by decide) rfl (Nat.le_of_ble_eq_true rfl) (by decide) (fm_dec dtX11_lifeHere 8 rfl) ?_
  refine c_number1 hf ?_
  refine pv_then1 ?_
  exact pv_ireturn (pc := 13) rfl (fm_dec dtX11_lifeHere 9 rfl) hq
set_option maxRecDepth 20000 in
theorem cl_0 {Q : fmR → fmM → Prop} {M0 M : fmM} {tx : tX} {n q : Nat} {D : dD} {v2 v3 v4 : Option Value} (hS : rS M tx n q) (hf : M.1 0 5 = 0) (hR : dRep M D) (hD : dOk D) (hF : clI M0 M) (hl : D.1 < 8) (hok : ∀ (M' : fmM) (D' : dD) (q' : Nat), spLife tx D q = .inr (D', q') → clOk M0 M' tx n q' D' → Q (.inl none) M') (hbad : ∀ (M' : fmM) (k a : Nat), spLife tx D q = .inl (k, a) → clBad M0 M' tx n k a → Q (.inl none) M') : pvEv Tm 5 qX11_clause 93 [some (.ref 0), some (.int 0), v2, v3, v4] [] M Q := by
  refine pv_iloadn (pc := 93) (n := 1) 1 rfl rfl (fm_dec dtX11_clause 50 rfl) ?_
  refine pv_table (pc := 94) 140 (by decide) rfl (fm_dec dtX11_clause 51 rfl) ?_
  refine pv_aloadn (pc := 140) (n := 0) 0 rfl rfl (fm_dec dtX11_clause 52 rfl) ?_
  refine pv_getR (k := 0) (j := 13) (ci := 11) (pc := 141) 16 rfl (by decide) pfl_X11_28 (by decide) rfl (by decide) (fm_dec dtX11_clause 53 rfl) ?_
  refine pv_aloadn (pc := 144) (n := 0) 0 rfl rfl (fm_dec dtX11_clause 54 rfl) ?_
  refine pv_getR (k := 0) (j := 11) (ci := 11) (pc := 145) 3 rfl (by decide) pfl_X11_20 (by decide) rfl (by decide) (fm_dec dtX11_clause 55 rfl) ?_
  refine pv_iconst (pc := 148) (v := 0) (by decide) (fm_dec dtX11_clause 56 rfl) ?_
  refine pv_iald (k := 3) (n := 6) (pc := 149) (by decide) rfl rfl (fm_inl (by decide)) (fm_dec dtX11_clause 57 rfl) ?_
  refine pv_aald (k := 16) (n := 8) (r := (27 + D.1)) (pc := 150) (by decide) (Or.inr (Or.inr rfl)) rfl (rw_readLife.inb hR.1 hl) (rw_readLife.at hR.1 hl) (rw_readLife.2.2.2 _ hl).2.1 (fm_dec dtX11_clause 58 rfl) ?_
  refine pv_astoren (pc := 151) (n := 2) 2 rfl (by decide) rfl (fm_dec dtX11_clause 59 rfl) ?_
  dsimp only [List.set_cons_zero, List.set_cons_succ]
  refine pv_aloadn (pc := 152) (n := 2) 2 rfl rfl (fm_dec dtX11_clause 60 rfl) ?_
  refine pv_iconst (pc := 153) (v := 0) (by decide) (fm_dec dtX11_clause 61 rfl) ?_
  refine pv_aloadn (pc := 154) (n := 0) 0 rfl rfl (fm_dec dtX11_clause 62 rfl) ?_
  refine pv_iconst (pc := 155) (v := 0) (by decide) (fm_dec dtX11_clause 63 rfl) ?_
  refine pv_bipush (pc := 156) (v := 110) (by decide) (fm_dec dtX11_clause 64 rfl) ?_
  refine pv_invV2 (k := 0) (d' := 2) (pc := 158) pcv_X11_163 (by decide) rfl (Nat.le_of_ble_eq_true rfl) (by decide) (fm_dec dtX11_clause 65 rfl) ?_
  refine r_num (tx := tx) (n := n) (p := q) 0 110 ⟨by decide, by decide, by decide⟩ (by (repeat refine rS.row ?_ ⟨by omega, by omega⟩); exact (⟨hS, hf, rdFr.refl M⟩ : rdOk M M tx n q).1) (by (repeat refine f0.row ?_ (by omega)); exact (⟨hS, hf, rdFr.refl M⟩ : rdOk M M tx n q).2.1) (fun M158 v158 q158 w158 e158 hw158 k158 => ?_) (fun Mb kb ab eb hB => ?_)  
  · refine pv_then1 ?_
    refine pv_iast (k := (27 + D.1)) (n := 6) (pc := 161) (rw_readLife.2.2.2 _ hl).2.2.1 (rw_readLife.2.2.2 _ hl).2.2.2.1 (rw_readLife.2.2.2 _ hl).2.2.2.2 (fm_inl (by decide)) (fm_dec dtX11_clause 66 rfl) ?_
    refine pv_aloadn (pc := 162) (n := 2) 2 rfl rfl (fm_dec dtX11_clause 67 rfl) ?_
    refine pv_iconst (pc := 163) (v := 1) (by decide) (fm_dec dtX11_clause 68 rfl) ?_
    refine pv_aloadn (pc := 164) (n := 0) 0 rfl rfl (fm_dec dtX11_clause 69 rfl) ?_
    refine pv_iconst (pc := 165) (v := 0) (by decide) (fm_dec dtX11_clause 70 rfl) ?_
    refine pv_bipush (pc := 166) (v := 64) (by decide) (fm_dec dtX11_clause 71 rfl) ?_
    refine pv_invV2 (k := 0) (d' := 2) (pc := 168) pcv_X11_163 (by decide) rfl (Nat.le_of_ble_eq_true rfl) (by decide) (fm_dec dtX11_clause 72 rfl) ?_
    refine r_num (tx := tx) (n := n) (p := q158) 0 64 ⟨by decide, by decide, by decide⟩ (by (repeat refine rS.row ?_ ⟨by omega, by omega⟩); exact k158.1) (by (repeat refine f0.row ?_ (by omega)); exact k158.2.1) (fun M168 v168 q168 w168 e168 hw168 k168 => ?_) (fun Mb kb ab eb hB => ?_)  
    · refine pv_then1 ?_
      refine pv_iast (k := (27 + D.1)) (n := 6) (pc := 171) (rw_readLife.2.2.2 _ hl).2.2.1 (rw_readLife.2.2.2 _ hl).2.2.2.1 (rw_readLife.2.2.2 _ hl).2.2.2.2 (fm_inl (by decide)) (fm_dec dtX11_clause 73 rfl) ?_
      refine pv_aloadn (pc := 172) (n := 2) 2 rfl rfl (fm_dec dtX11_clause 74 rfl) ?_
      refine pv_iconst (pc := 173) (v := 2) (by decide) (fm_dec dtX11_clause 75 rfl) ?_
      refine pv_aloadn (pc := 174) (n := 0) 0 rfl rfl (fm_dec dtX11_clause 76 rfl) ?_
      refine pv_iconst (pc := 175) (v := 1) (by decide) (fm_dec dtX11_clause 77 rfl) ?_
      refine pv_bipush (pc := 176) (v := 99) (by decide) (fm_dec dtX11_clause 78 rfl) ?_
      refine pv_invV2 (k := 0) (d' := 2) (pc := 178) pcv_X11_163 (by decide) rfl (Nat.le_of_ble_eq_true rfl) (by decide) (fm_dec dtX11_clause 79 rfl) ?_
      refine r_num (tx := tx) (n := n) (p := q168) 1 99 ⟨by decide, by decide, by decide⟩ (by (repeat refine rS.row ?_ ⟨by omega, by omega⟩); exact k168.1) (by (repeat refine f0.row ?_ (by omega)); exact k168.2.1) (fun M178 v178 q178 w178 e178 hw178 k178 => ?_) (fun Mb kb ab eb hB => ?_)  
      · refine pv_then1 ?_
        refine pv_iast (k := (27 + D.1)) (n := 6) (pc := 181) (rw_readLife.2.2.2 _ hl).2.2.1 (rw_readLife.2.2.2 _ hl).2.2.2.1 (rw_readLife.2.2.2 _ hl).2.2.2.2 (fm_inl (by decide)) (fm_dec dtX11_clause 80 rfl) ?_
        refine pv_aloadn (pc := 182) (n := 2) 2 rfl rfl (fm_dec dtX11_clause 81 rfl) ?_
        refine pv_iconst (pc := 183) (v := 3) (by decide) (fm_dec dtX11_clause 82 rfl) ?_
        refine pv_aloadn (pc := 184) (n := 0) 0 rfl rfl (fm_dec dtX11_clause 83 rfl) ?_
        refine pv_iconst (pc := 185) (v := 1) (by decide) (fm_dec dtX11_clause 84 rfl) ?_
        refine pv_bipush (pc := 186) (v := 9) (by decide) (fm_dec dtX11_clause 85 rfl) ?_
        refine pv_invV2 (k := 0) (d' := 2) (pc := 188) pcv_X11_163 (by decide) rfl (Nat.le_of_ble_eq_true rfl) (by decide) (fm_dec dtX11_clause 86 rfl) ?_
        refine r_num (tx := tx) (n := n) (p := q178) 1 9 ⟨by decide, by decide, by decide⟩ (by (repeat refine rS.row ?_ ⟨by omega, by omega⟩); exact k178.1) (by (repeat refine f0.row ?_ (by omega)); exact k178.2.1) (fun M188 v188 q188 w188 e188 hw188 k188 => ?_) (fun Mb kb ab eb hB => ?_)  
        · refine pv_then1 ?_
          refine pv_iast (k := (27 + D.1)) (n := 6) (pc := 191) (rw_readLife.2.2.2 _ hl).2.2.1 (rw_readLife.2.2.2 _ hl).2.2.2.1 (rw_readLife.2.2.2 _ hl).2.2.2.2 (fm_inl (by decide)) (fm_dec dtX11_clause 87 rfl) ?_
          refine pv_aloadn (pc := 192) (n := 2) 2 rfl rfl (fm_dec dtX11_clause 88 rfl) ?_
          refine pv_iconst (pc := 193) (v := 4) (by decide) (fm_dec dtX11_clause 89 rfl) ?_
          refine pv_iconst (pc := 194) (v := (-1)) (by decide) (fm_dec dtX11_clause 90 rfl) ?_
          refine pv_iast (k := (27 + D.1)) (n := 6) (pc := 195) (rw_readLife.2.2.2 _ hl).2.2.1 (rw_readLife.2.2.2 _ hl).2.2.2.1 (rw_readLife.2.2.2 _ hl).2.2.2.2 (fm_inl (by decide)) (fm_dec dtX11_clause 91 rfl) ?_
          refine pv_aloadn (pc := 196) (n := 2) 2 rfl rfl (fm_dec dtX11_clause 92 rfl) ?_
          refine pv_iconst (pc := 197) (v := 5) (by decide) (fm_dec dtX11_clause 93 rfl) ?_
          refine pv_iconst (pc := 198) (v := (-1)) (by decide) (fm_dec dtX11_clause 94 rfl) ?_
          refine pv_iast (k := (27 + D.1)) (n := 6) (pc := 199) (rw_readLife.2.2.2 _ hl).2.2.1 (rw_readLife.2.2.2 _ hl).2.2.2.1 (rw_readLife.2.2.2 _ hl).2.2.2.2 (fm_inl (by decide)) (fm_dec dtX11_clause 95 rfl) ?_
          refine pv_goto (pc := 200) 403 (by decide) (fm_dec dtX11_clause 96 rfl) ?_
          refine pv_iloadn (pc := 403) (n := 1) 1 rfl rfl (fm_dec dtX11_clause 212 rfl) ?_
          refine pv_iconst (pc := 404) (v := 2) (by decide) (fm_dec dtX11_clause 213 rfl) ?_
          refine pv_icmp_ge (pc := 405) 429 (by decide) (fm_dec dtX11_clause 214 rfl) (fun hc405 => by exfalso; revert hc405; decide) (fun _ => ?_)
          refine pv_aloadn (pc := 408) (n := 0) 0 rfl rfl (fm_dec dtX11_clause 215 rfl) ?_
          refine pv_getR (k := 0) (j := 11) (ci := 11) (pc := 409) 3 rfl (by decide) pfl_X11_20 (by decide) rfl (by decide) (fm_dec dtX11_clause 216 rfl) ?_
          refine pv_iloadn (pc := 412) (n := 1) 1 rfl rfl (fm_dec dtX11_clause 217 rfl) ?_
          refine pv_dup2 (pc := 413) rfl rfl (fm_dec dtX11_clause 218 rfl) ?_
          refine pv_iald (k := 3) (n := 6) (pc := 414) (by decide) rfl rfl (fm_inl (by decide)) (fm_dec dtX11_clause 219 rfl) ?_
          refine pv_aloadn (pc := 415) (n := 0) 0 rfl rfl (fm_dec dtX11_clause 220 rfl) ?_
          refine pv_getI (k := 0) (j := 5) (ci := 11) (pc := 416) pfl_X11_117 (by decide) rfl (by decide) (fm_dec dtX11_clause 221 rfl) ?_
          refine pv_if_ne (pc := 419) 426 (by decide) (fm_dec dtX11_clause 222 rfl) (fun hc419 => by exfalso; exact hc419 (by (repeat refine f0.row ?_ (by omega)); exact k188.2.1)) (fun _ => ?_)
          refine pv_iconst (pc := 422) (v := 1) (by decide) (fm_dec dtX11_clause 223 rfl) ?_
          refine pv_goto (pc := 423) 427 (by decide) (fm_dec dtX11_clause 224 rfl) ?_
          refine pv_iadd (pc := 427) (fm_dec dtX11_clause 226 rfl) ?_
          refine pv_iast (k := 3) (n := 6) (pc := 428) (by decide) rfl rfl (fm_inl (by decide)) (fm_dec dtX11_clause 227 rfl) ?_
          refine pv_aloadn (pc := 429) (n := 0) 0 rfl rfl (fm_dec dtX11_clause 228 rfl) ?_
          refine pv_bipush (pc := 430) (v := 59) (by decide) (fm_dec dtX11_clause 229 rfl) ?_
          refine pv_invV1 (k := 0) (d' := 2) (pc := 432) pcv_X11_173 (by decide) rfl (Nat.le_of_ble_eq_true rfl) (by decide) (fm_dec dtX11_clause 230 rfl) ?_
          refine r_sign (tx := tx) (n := n) (p := q188) 59 ⟨by decide, by decide⟩ (by (repeat refine rS.row ?_ ⟨by omega, by omega⟩); exact k188.1) (by (repeat refine f0.row ?_ (by omega)); exact k188.2.1) (fun M432 q432 e432 k432 => ?_) (fun Mb kb ab eb hB => ?_)  
          · refine pv_then0 ?_
            exact pv_return (pc := 435) rfl (fm_dec dtX11_clause 231 rfl) (hok _ _ _ (by simp only [spLife, spBind, e158, e168, e178, e188, e432]) ⟨k432.1, k432.2.1, rep_life hR hl k158.2.2 k168.2.2 k178.2.2 k188.2.2 k432.2.2 hw158 hw168 hw178 hw188, (((((((((((((hF).rd k158.2.2).row (by omega)).rd k168.2.2).row (by omega)).rd k178.2.2).row (by omega)).rd k188.2.2).row (by omega)).row (by omega)).row (by omega)).row (Or.inl rfl)).rd k432.2.2).2, (((((((((((((hF).rd k158.2.2).row (by omega)).rd k168.2.2).row (by omega)).rd k178.2.2).row (by omega)).rd k188.2.2).row (by omega)).row (by omega)).row (by omega)).row (Or.inl rfl)).rd k432.2.2).1⟩)
          · refine pv_then0 ?_
            have hB9 := clBad.of ((((((((((((hF).rd k158.2.2).row (by omega)).rd k168.2.2).row (by omega)).rd k178.2.2).row (by omega)).rd k188.2.2).row (by omega)).row (by omega)).row (by omega)).row (Or.inl rfl)).1 hB
            exact pv_return (pc := 435) rfl (fm_dec dtX11_clause 231 rfl) (hbad _ kb ab (by simp only [spLife, spBind, e158, e168, e178, e188, eb]) (by (repeat refine clBad.row (by omega) ?_); exact hB9))
        · refine pv_then1 ?_
          have hB9 := clBad.of (((((((hF).rd k158.2.2).row (by omega)).rd k168.2.2).row (by omega)).rd k178.2.2).row (by omega)).1 hB
          refine pv_iast (k := (27 + D.1)) (n := 6) (pc := 191) (rw_readLife.2.2.2 _ hl).2.2.1 (rw_readLife.2.2.2 _ hl).2.2.2.1 (rw_readLife.2.2.2 _ hl).2.2.2.2 (fm_inl (by decide)) (fm_dec dtX11_clause 87 rfl) ?_
          refine pv_aloadn (pc := 192) (n := 2) 2 rfl rfl (fm_dec dtX11_clause 88 rfl) ?_
          refine pv_iconst (pc := 193) (v := 4) (by decide) (fm_dec dtX11_clause 89 rfl) ?_
          refine pv_iconst (pc := 194) (v := (-1)) (by decide) (fm_dec dtX11_clause 90 rfl) ?_
          refine pv_iast (k := (27 + D.1)) (n := 6) (pc := 195) (rw_readLife.2.2.2 _ hl).2.2.1 (rw_readLife.2.2.2 _ hl).2.2.2.1 (rw_readLife.2.2.2 _ hl).2.2.2.2 (fm_inl (by decide)) (fm_dec dtX11_clause 91 rfl) ?_
          refine pv_aloadn (pc := 196) (n := 2) 2 rfl rfl (fm_dec dtX11_clause 92 rfl) ?_
          refine pv_iconst (pc := 197) (v := 5) (by decide) (fm_dec dtX11_clause 93 rfl) ?_
          refine pv_iconst (pc := 198) (v := (-1)) (by decide) (fm_dec dtX11_clause 94 rfl) ?_
          refine pv_iast (k := (27 + D.1)) (n := 6) (pc := 199) (rw_readLife.2.2.2 _ hl).2.2.1 (rw_readLife.2.2.2 _ hl).2.2.2.1 (rw_readLife.2.2.2 _ hl).2.2.2.2 (fm_inl (by decide)) (fm_dec dtX11_clause 95 rfl) ?_
          refine pv_goto (pc := 200) 403 (by decide) (fm_dec dtX11_clause 96 rfl) ?_
          refine pv_iloadn (pc := 403) (n := 1) 1 rfl rfl (fm_dec dtX11_clause 212 rfl) ?_
          refine pv_iconst (pc := 404) (v := 2) (by decide) (fm_dec dtX11_clause 213 rfl) ?_
          refine pv_icmp_ge (pc := 405) 429 (by decide) (fm_dec dtX11_clause 214 rfl) (fun hc405 => by exfalso; revert hc405; decide) (fun _ => ?_)
          refine pv_aloadn (pc := 408) (n := 0) 0 rfl rfl (fm_dec dtX11_clause 215 rfl) ?_
          refine pv_getR (k := 0) (j := 11) (ci := 11) (pc := 409) 3 rfl (by decide) pfl_X11_20 (by decide) rfl (by decide) (fm_dec dtX11_clause 216 rfl) ?_
          refine pv_iloadn (pc := 412) (n := 1) 1 rfl rfl (fm_dec dtX11_clause 217 rfl) ?_
          refine pv_dup2 (pc := 413) rfl rfl (fm_dec dtX11_clause 218 rfl) ?_
          refine pv_iald (k := 3) (n := 6) (pc := 414) (by decide) rfl rfl (fm_inl (by decide)) (fm_dec dtX11_clause 219 rfl) ?_
          refine pv_aloadn (pc := 415) (n := 0) 0 rfl rfl (fm_dec dtX11_clause 220 rfl) ?_
          refine pv_getI (k := 0) (j := 5) (ci := 11) (pc := 416) pfl_X11_117 (by decide) rfl (by decide) (fm_dec dtX11_clause 221 rfl) ?_
          refine pv_if_ne (pc := 419) 426 (by decide) (fm_dec dtX11_clause 222 rfl) (fun _ => ?_) (fun hc419 => by exfalso; exact (clBad.nz (M := M0) (tx := tx) (n := n) (k := kb) (a := ab) (by (repeat refine clBad.row (by omega) ?_); exact hB9)) hc419)
          refine pv_iconst (pc := 426) (v := 0) (by decide) (fm_dec dtX11_clause 225 rfl) ?_
          refine pv_iadd (pc := 427) (fm_dec dtX11_clause 226 rfl) ?_
          refine pv_iast (k := 3) (n := 6) (pc := 428) (by decide) rfl rfl (fm_inl (by decide)) (fm_dec dtX11_clause 227 rfl) ?_
          refine pv_aloadn (pc := 429) (n := 0) 0 rfl rfl (fm_dec dtX11_clause 228 rfl) ?_
          refine pv_bipush (pc := 430) (v := 59) (by decide) (fm_dec dtX11_clause 229 rfl) ?_
          refine pv_invV1 (k := 0) (d' := 2) (pc := 432) pcv_X11_173 (by decide) rfl (Nat.le_of_ble_eq_true rfl) (by decide) (fm_dec dtX11_clause 230 rfl) ?_
          refine c_sign1 (clBad.nz (M := M0) (tx := tx) (n := n) (k := kb) (a := ab) (by (repeat refine clBad.row (by omega) ?_); exact hB9)) ?_
          refine pv_then0 ?_
          exact pv_return (pc := 435) rfl (fm_dec dtX11_clause 231 rfl) (hbad _ kb ab (by simp only [spLife, spBind, e158, e168, e178, eb]) (by (repeat refine clBad.row (by omega) ?_); exact hB9))
      · refine pv_then1 ?_
        have hB9 := clBad.of (((((hF).rd k158.2.2).row (by omega)).rd k168.2.2).row (by omega)).1 hB
        refine pv_iast (k := (27 + D.1)) (n := 6) (pc := 181) (rw_readLife.2.2.2 _ hl).2.2.1 (rw_readLife.2.2.2 _ hl).2.2.2.1 (rw_readLife.2.2.2 _ hl).2.2.2.2 (fm_inl (by decide)) (fm_dec dtX11_clause 80 rfl) ?_
        refine pv_aloadn (pc := 182) (n := 2) 2 rfl rfl (fm_dec dtX11_clause 81 rfl) ?_
        refine pv_iconst (pc := 183) (v := 3) (by decide) (fm_dec dtX11_clause 82 rfl) ?_
        refine pv_aloadn (pc := 184) (n := 0) 0 rfl rfl (fm_dec dtX11_clause 83 rfl) ?_
        refine pv_iconst (pc := 185) (v := 1) (by decide) (fm_dec dtX11_clause 84 rfl) ?_
        refine pv_bipush (pc := 186) (v := 9) (by decide) (fm_dec dtX11_clause 85 rfl) ?_
        refine pv_invV2 (k := 0) (d' := 2) (pc := 188) pcv_X11_163 (by decide) rfl (Nat.le_of_ble_eq_true rfl) (by decide) (fm_dec dtX11_clause 86 rfl) ?_
        refine c_number1 (clBad.nz (M := M0) (tx := tx) (n := n) (k := kb) (a := ab) (by (repeat refine clBad.row (by omega) ?_); exact hB9)) ?_
        refine pv_then1 ?_
        refine pv_iast (k := (27 + D.1)) (n := 6) (pc := 191) (rw_readLife.2.2.2 _ hl).2.2.1 (rw_readLife.2.2.2 _ hl).2.2.2.1 (rw_readLife.2.2.2 _ hl).2.2.2.2 (fm_inl (by decide)) (fm_dec dtX11_clause 87 rfl) ?_
        refine pv_aloadn (pc := 192) (n := 2) 2 rfl rfl (fm_dec dtX11_clause 88 rfl) ?_
        refine pv_iconst (pc := 193) (v := 4) (by decide) (fm_dec dtX11_clause 89 rfl) ?_
        refine pv_iconst (pc := 194) (v := (-1)) (by decide) (fm_dec dtX11_clause 90 rfl) ?_
        refine pv_iast (k := (27 + D.1)) (n := 6) (pc := 195) (rw_readLife.2.2.2 _ hl).2.2.1 (rw_readLife.2.2.2 _ hl).2.2.2.1 (rw_readLife.2.2.2 _ hl).2.2.2.2 (fm_inl (by decide)) (fm_dec dtX11_clause 91 rfl) ?_
        refine pv_aloadn (pc := 196) (n := 2) 2 rfl rfl (fm_dec dtX11_clause 92 rfl) ?_
        refine pv_iconst (pc := 197) (v := 5) (by decide) (fm_dec dtX11_clause 93 rfl) ?_
        refine pv_iconst (pc := 198) (v := (-1)) (by decide) (fm_dec dtX11_clause 94 rfl) ?_
        refine pv_iast (k := (27 + D.1)) (n := 6) (pc := 199) (rw_readLife.2.2.2 _ hl).2.2.1 (rw_readLife.2.2.2 _ hl).2.2.2.1 (rw_readLife.2.2.2 _ hl).2.2.2.2 (fm_inl (by decide)) (fm_dec dtX11_clause 95 rfl) ?_
        refine pv_goto (pc := 200) 403 (by decide) (fm_dec dtX11_clause 96 rfl) ?_
        refine pv_iloadn (pc := 403) (n := 1) 1 rfl rfl (fm_dec dtX11_clause 212 rfl) ?_
        refine pv_iconst (pc := 404) (v := 2) (by decide) (fm_dec dtX11_clause 213 rfl) ?_
        refine pv_icmp_ge (pc := 405) 429 (by decide) (fm_dec dtX11_clause 214 rfl) (fun hc405 => by exfalso; revert hc405; decide) (fun _ => ?_)
        refine pv_aloadn (pc := 408) (n := 0) 0 rfl rfl (fm_dec dtX11_clause 215 rfl) ?_
        refine pv_getR (k := 0) (j := 11) (ci := 11) (pc := 409) 3 rfl (by decide) pfl_X11_20 (by decide) rfl (by decide) (fm_dec dtX11_clause 216 rfl) ?_
        refine pv_iloadn (pc := 412) (n := 1) 1 rfl rfl (fm_dec dtX11_clause 217 rfl) ?_
        refine pv_dup2 (pc := 413) rfl rfl (fm_dec dtX11_clause 218 rfl) ?_
        refine pv_iald (k := 3) (n := 6) (pc := 414) (by decide) rfl rfl (fm_inl (by decide)) (fm_dec dtX11_clause 219 rfl) ?_
        refine pv_aloadn (pc := 415) (n := 0) 0 rfl rfl (fm_dec dtX11_clause 220 rfl) ?_
        refine pv_getI (k := 0) (j := 5) (ci := 11) (pc := 416) pfl_X11_117 (by decide) rfl (by decide) (fm_dec dtX11_clause 221 rfl) ?_
        refine pv_if_ne (pc := 419) 426 (by decide) (fm_dec dtX11_clause 222 rfl) (fun _ => ?_) (fun hc419 => by exfalso; exact (clBad.nz (M := M0) (tx := tx) (n := n) (k := kb) (a := ab) (by (repeat refine clBad.row (by omega) ?_); exact hB9)) hc419)
        refine pv_iconst (pc := 426) (v := 0) (by decide) (fm_dec dtX11_clause 225 rfl) ?_
        refine pv_iadd (pc := 427) (fm_dec dtX11_clause 226 rfl) ?_
        refine pv_iast (k := 3) (n := 6) (pc := 428) (by decide) rfl rfl (fm_inl (by decide)) (fm_dec dtX11_clause 227 rfl) ?_
        refine pv_aloadn (pc := 429) (n := 0) 0 rfl rfl (fm_dec dtX11_clause 228 rfl) ?_
        refine pv_bipush (pc := 430) (v := 59) (by decide) (fm_dec dtX11_clause 229 rfl) ?_
        refine pv_invV1 (k := 0) (d' := 2) (pc := 432) pcv_X11_173 (by decide) rfl (Nat.le_of_ble_eq_true rfl) (by decide) (fm_dec dtX11_clause 230 rfl) ?_
        refine c_sign1 (clBad.nz (M := M0) (tx := tx) (n := n) (k := kb) (a := ab) (by (repeat refine clBad.row (by omega) ?_); exact hB9)) ?_
        refine pv_then0 ?_
        exact pv_return (pc := 435) rfl (fm_dec dtX11_clause 231 rfl) (hbad _ kb ab (by simp only [spLife, spBind, e158, e168, eb]) (by (repeat refine clBad.row (by omega) ?_); exact hB9))
    · refine pv_then1 ?_
      have hB9 := clBad.of (((hF).rd k158.2.2).row (by omega)).1 hB
      refine pv_iast (k := (27 + D.1)) (n := 6) (pc := 171) (rw_readLife.2.2.2 _ hl).2.2.1 (rw_readLife.2.2.2 _ hl).2.2.2.1 (rw_readLife.2.2.2 _ hl).2.2.2.2 (fm_inl (by decide)) (fm_dec dtX11_clause 73 rfl) ?_
      refine pv_aloadn (pc := 172) (n := 2) 2 rfl rfl (fm_dec dtX11_clause 74 rfl) ?_
      refine pv_iconst (pc := 173) (v := 2) (by decide) (fm_dec dtX11_clause 75 rfl) ?_
      refine pv_aloadn (pc := 174) (n := 0) 0 rfl rfl (fm_dec dtX11_clause 76 rfl) ?_
      refine pv_iconst (pc := 175) (v := 1) (by decide) (fm_dec dtX11_clause 77 rfl) ?_
      refine pv_bipush (pc := 176) (v := 99) (by decide) (fm_dec dtX11_clause 78 rfl) ?_
      refine pv_invV2 (k := 0) (d' := 2) (pc := 178) pcv_X11_163 (by decide) rfl (Nat.le_of_ble_eq_true rfl) (by decide) (fm_dec dtX11_clause 79 rfl) ?_
      refine c_number1 (clBad.nz (M := M0) (tx := tx) (n := n) (k := kb) (a := ab) (by (repeat refine clBad.row (by omega) ?_); exact hB9)) ?_
      refine pv_then1 ?_
      refine pv_iast (k := (27 + D.1)) (n := 6) (pc := 181) (rw_readLife.2.2.2 _ hl).2.2.1 (rw_readLife.2.2.2 _ hl).2.2.2.1 (rw_readLife.2.2.2 _ hl).2.2.2.2 (fm_inl (by decide)) (fm_dec dtX11_clause 80 rfl) ?_
      refine pv_aloadn (pc := 182) (n := 2) 2 rfl rfl (fm_dec dtX11_clause 81 rfl) ?_
      refine pv_iconst (pc := 183) (v := 3) (by decide) (fm_dec dtX11_clause 82 rfl) ?_
      refine pv_aloadn (pc := 184) (n := 0) 0 rfl rfl (fm_dec dtX11_clause 83 rfl) ?_
      refine pv_iconst (pc := 185) (v := 1) (by decide) (fm_dec dtX11_clause 84 rfl) ?_
      refine pv_bipush (pc := 186) (v := 9) (by decide) (fm_dec dtX11_clause 85 rfl) ?_
      refine pv_invV2 (k := 0) (d' := 2) (pc := 188) pcv_X11_163 (by decide) rfl (Nat.le_of_ble_eq_true rfl) (by decide) (fm_dec dtX11_clause 86 rfl) ?_
      refine c_number1 (clBad.nz (M := M0) (tx := tx) (n := n) (k := kb) (a := ab) (by (repeat refine clBad.row (by omega) ?_); exact hB9)) ?_
      refine pv_then1 ?_
      refine pv_iast (k := (27 + D.1)) (n := 6) (pc := 191) (rw_readLife.2.2.2 _ hl).2.2.1 (rw_readLife.2.2.2 _ hl).2.2.2.1 (rw_readLife.2.2.2 _ hl).2.2.2.2 (fm_inl (by decide)) (fm_dec dtX11_clause 87 rfl) ?_
      refine pv_aloadn (pc := 192) (n := 2) 2 rfl rfl (fm_dec dtX11_clause 88 rfl) ?_
      refine pv_iconst (pc := 193) (v := 4) (by decide) (fm_dec dtX11_clause 89 rfl) ?_
      refine pv_iconst (pc := 194) (v := (-1)) (by decide) (fm_dec dtX11_clause 90 rfl) ?_
      refine pv_iast (k := (27 + D.1)) (n := 6) (pc := 195) (rw_readLife.2.2.2 _ hl).2.2.1 (rw_readLife.2.2.2 _ hl).2.2.2.1 (rw_readLife.2.2.2 _ hl).2.2.2.2 (fm_inl (by decide)) (fm_dec dtX11_clause 91 rfl) ?_
      refine pv_aloadn (pc := 196) (n := 2) 2 rfl rfl (fm_dec dtX11_clause 92 rfl) ?_
      refine pv_iconst (pc := 197) (v := 5) (by decide) (fm_dec dtX11_clause 93 rfl) ?_
      refine pv_iconst (pc := 198) (v := (-1)) (by decide) (fm_dec dtX11_clause 94 rfl) ?_
      refine pv_iast (k := (27 + D.1)) (n := 6) (pc := 199) (rw_readLife.2.2.2 _ hl).2.2.1 (rw_readLife.2.2.2 _ hl).2.2.2.1 (rw_readLife.2.2.2 _ hl).2.2.2.2 (fm_inl (by decide)) (fm_dec dtX11_clause 95 rfl) ?_
      refine pv_goto (pc := 200) 403 (by decide) (fm_dec dtX11_clause 96 rfl) ?_
      refine pv_iloadn (pc := 403) (n := 1) 1 rfl rfl (fm_dec dtX11_clause 212 rfl) ?_
      refine pv_iconst (pc := 404) (v := 2) (by decide) (fm_dec dtX11_clause 213 rfl) ?_
      refine pv_icmp_ge (pc := 405) 429 (by decide) (fm_dec dtX11_clause 214 rfl) (fun hc405 => by exfalso; revert hc405; decide) (fun _ => ?_)
      refine pv_aloadn (pc := 408) (n := 0) 0 rfl rfl (fm_dec dtX11_clause 215 rfl) ?_
      refine pv_getR (k := 0) (j := 11) (ci := 11) (pc := 409) 3 rfl (by decide) pfl_X11_20 (by decide) rfl (by decide) (fm_dec dtX11_clause 216 rfl) ?_
      refine pv_iloadn (pc := 412) (n := 1) 1 rfl rfl (fm_dec dtX11_clause 217 rfl) ?_
      refine pv_dup2 (pc := 413) rfl rfl (fm_dec dtX11_clause 218 rfl) ?_
      refine pv_iald (k := 3) (n := 6) (pc := 414) (by decide) rfl rfl (fm_inl (by decide)) (fm_dec dtX11_clause 219 rfl) ?_
      refine pv_aloadn (pc := 415) (n := 0) 0 rfl rfl (fm_dec dtX11_clause 220 rfl) ?_
      refine pv_getI (k := 0) (j := 5) (ci := 11) (pc := 416) pfl_X11_117 (by decide) rfl (by decide) (fm_dec dtX11_clause 221 rfl) ?_
      refine pv_if_ne (pc := 419) 426 (by decide) (fm_dec dtX11_clause 222 rfl) (fun _ => ?_) (fun hc419 => by exfalso; exact (clBad.nz (M := M0) (tx := tx) (n := n) (k := kb) (a := ab) (by (repeat refine clBad.row (by omega) ?_); exact hB9)) hc419)
      refine pv_iconst (pc := 426) (v := 0) (by decide) (fm_dec dtX11_clause 225 rfl) ?_
      refine pv_iadd (pc := 427) (fm_dec dtX11_clause 226 rfl) ?_
      refine pv_iast (k := 3) (n := 6) (pc := 428) (by decide) rfl rfl (fm_inl (by decide)) (fm_dec dtX11_clause 227 rfl) ?_
      refine pv_aloadn (pc := 429) (n := 0) 0 rfl rfl (fm_dec dtX11_clause 228 rfl) ?_
      refine pv_bipush (pc := 430) (v := 59) (by decide) (fm_dec dtX11_clause 229 rfl) ?_
      refine pv_invV1 (k := 0) (d' := 2) (pc := 432) pcv_X11_173 (by decide) rfl (Nat.le_of_ble_eq_true rfl) (by decide) (fm_dec dtX11_clause 230 rfl) ?_
      refine c_sign1 (clBad.nz (M := M0) (tx := tx) (n := n) (k := kb) (a := ab) (by (repeat refine clBad.row (by omega) ?_); exact hB9)) ?_
      refine pv_then0 ?_
      exact pv_return (pc := 435) rfl (fm_dec dtX11_clause 231 rfl) (hbad _ kb ab (by simp only [spLife, spBind, e158, eb]) (by (repeat refine clBad.row (by omega) ?_); exact hB9))
  · refine pv_then1 ?_
    have hB9 := clBad.of (hF).1 hB
    refine pv_iast (k := (27 + D.1)) (n := 6) (pc := 161) (rw_readLife.2.2.2 _ hl).2.2.1 (rw_readLife.2.2.2 _ hl).2.2.2.1 (rw_readLife.2.2.2 _ hl).2.2.2.2 (fm_inl (by decide)) (fm_dec dtX11_clause 66 rfl) ?_
    refine pv_aloadn (pc := 162) (n := 2) 2 rfl rfl (fm_dec dtX11_clause 67 rfl) ?_
    refine pv_iconst (pc := 163) (v := 1) (by decide) (fm_dec dtX11_clause 68 rfl) ?_
    refine pv_aloadn (pc := 164) (n := 0) 0 rfl rfl (fm_dec dtX11_clause 69 rfl) ?_
    refine pv_iconst (pc := 165) (v := 0) (by decide) (fm_dec dtX11_clause 70 rfl) ?_
    refine pv_bipush (pc := 166) (v := 64) (by decide) (fm_dec dtX11_clause 71 rfl) ?_
    refine pv_invV2 (k := 0) (d' := 2) (pc := 168) pcv_X11_163 (by decide) rfl (Nat.le_of_ble_eq_true rfl) (by decide) (fm_dec dtX11_clause 72 rfl) ?_
    refine c_number1 (clBad.nz (M := M0) (tx := tx) (n := n) (k := kb) (a := ab) (by (repeat refine clBad.row (by omega) ?_); exact hB9)) ?_
    refine pv_then1 ?_
    refine pv_iast (k := (27 + D.1)) (n := 6) (pc := 171) (rw_readLife.2.2.2 _ hl).2.2.1 (rw_readLife.2.2.2 _ hl).2.2.2.1 (rw_readLife.2.2.2 _ hl).2.2.2.2 (fm_inl (by decide)) (fm_dec dtX11_clause 73 rfl) ?_
    refine pv_aloadn (pc := 172) (n := 2) 2 rfl rfl (fm_dec dtX11_clause 74 rfl) ?_
    refine pv_iconst (pc := 173) (v := 2) (by decide) (fm_dec dtX11_clause 75 rfl) ?_
    refine pv_aloadn (pc := 174) (n := 0) 0 rfl rfl (fm_dec dtX11_clause 76 rfl) ?_
    refine pv_iconst (pc := 175) (v := 1) (by decide) (fm_dec dtX11_clause 77 rfl) ?_
    refine pv_bipush (pc := 176) (v := 99) (by decide) (fm_dec dtX11_clause 78 rfl) ?_
    refine pv_invV2 (k := 0) (d' := 2) (pc := 178) pcv_X11_163 (by decide) rfl (Nat.le_of_ble_eq_true rfl) (by decide) (fm_dec dtX11_clause 79 rfl) ?_
    refine c_number1 (clBad.nz (M := M0) (tx := tx) (n := n) (k := kb) (a := ab) (by (repeat refine clBad.row (by omega) ?_); exact hB9)) ?_
    refine pv_then1 ?_
    refine pv_iast (k := (27 + D.1)) (n := 6) (pc := 181) (rw_readLife.2.2.2 _ hl).2.2.1 (rw_readLife.2.2.2 _ hl).2.2.2.1 (rw_readLife.2.2.2 _ hl).2.2.2.2 (fm_inl (by decide)) (fm_dec dtX11_clause 80 rfl) ?_
    refine pv_aloadn (pc := 182) (n := 2) 2 rfl rfl (fm_dec dtX11_clause 81 rfl) ?_
    refine pv_iconst (pc := 183) (v := 3) (by decide) (fm_dec dtX11_clause 82 rfl) ?_
    refine pv_aloadn (pc := 184) (n := 0) 0 rfl rfl (fm_dec dtX11_clause 83 rfl) ?_
    refine pv_iconst (pc := 185) (v := 1) (by decide) (fm_dec dtX11_clause 84 rfl) ?_
    refine pv_bipush (pc := 186) (v := 9) (by decide) (fm_dec dtX11_clause 85 rfl) ?_
    refine pv_invV2 (k := 0) (d' := 2) (pc := 188) pcv_X11_163 (by decide) rfl (Nat.le_of_ble_eq_true rfl) (by decide) (fm_dec dtX11_clause 86 rfl) ?_
    refine c_number1 (clBad.nz (M := M0) (tx := tx) (n := n) (k := kb) (a := ab) (by (repeat refine clBad.row (by omega) ?_); exact hB9)) ?_
    refine pv_then1 ?_
    refine pv_iast (k := (27 + D.1)) (n := 6) (pc := 191) (rw_readLife.2.2.2 _ hl).2.2.1 (rw_readLife.2.2.2 _ hl).2.2.2.1 (rw_readLife.2.2.2 _ hl).2.2.2.2 (fm_inl (by decide)) (fm_dec dtX11_clause 87 rfl) ?_
    refine pv_aloadn (pc := 192) (n := 2) 2 rfl rfl (fm_dec dtX11_clause 88 rfl) ?_
    refine pv_iconst (pc := 193) (v := 4) (by decide) (fm_dec dtX11_clause 89 rfl) ?_
    refine pv_iconst (pc := 194) (v := (-1)) (by decide) (fm_dec dtX11_clause 90 rfl) ?_
    refine pv_iast (k := (27 + D.1)) (n := 6) (pc := 195) (rw_readLife.2.2.2 _ hl).2.2.1 (rw_readLife.2.2.2 _ hl).2.2.2.1 (rw_readLife.2.2.2 _ hl).2.2.2.2 (fm_inl (by decide)) (fm_dec dtX11_clause 91 rfl) ?_
    refine pv_aloadn (pc := 196) (n := 2) 2 rfl rfl (fm_dec dtX11_clause 92 rfl) ?_
    refine pv_iconst (pc := 197) (v := 5) (by decide) (fm_dec dtX11_clause 93 rfl) ?_
    refine pv_iconst (pc := 198) (v := (-1)) (by decide) (fm_dec dtX11_clause 94 rfl) ?_
    refine pv_iast (k := (27 + D.1)) (n := 6) (pc := 199) (rw_readLife.2.2.2 _ hl).2.2.1 (rw_readLife.2.2.2 _ hl).2.2.2.1 (rw_readLife.2.2.2 _ hl).2.2.2.2 (fm_inl (by decide)) (fm_dec dtX11_clause 95 rfl) ?_
    refine pv_goto (pc := 200) 403 (by decide) (fm_dec dtX11_clause 96 rfl) ?_
    refine pv_iloadn (pc := 403) (n := 1) 1 rfl rfl (fm_dec dtX11_clause 212 rfl) ?_
    refine pv_iconst (pc := 404) (v := 2) (by decide) (fm_dec dtX11_clause 213 rfl) ?_
    refine pv_icmp_ge (pc := 405) 429 (by decide) (fm_dec dtX11_clause 214 rfl) (fun hc405 => by exfalso; revert hc405; decide) (fun _ => ?_)
    refine pv_aloadn (pc := 408) (n := 0) 0 rfl rfl (fm_dec dtX11_clause 215 rfl) ?_
    refine pv_getR (k := 0) (j := 11) (ci := 11) (pc := 409) 3 rfl (by decide) pfl_X11_20 (by decide) rfl (by decide) (fm_dec dtX11_clause 216 rfl) ?_
    refine pv_iloadn (pc := 412) (n := 1) 1 rfl rfl (fm_dec dtX11_clause 217 rfl) ?_
    refine pv_dup2 (pc := 413) rfl rfl (fm_dec dtX11_clause 218 rfl) ?_
    refine pv_iald (k := 3) (n := 6) (pc := 414) (by decide) rfl rfl (fm_inl (by decide)) (fm_dec dtX11_clause 219 rfl) ?_
    refine pv_aloadn (pc := 415) (n := 0) 0 rfl rfl (fm_dec dtX11_clause 220 rfl) ?_
    refine pv_getI (k := 0) (j := 5) (ci := 11) (pc := 416) pfl_X11_117 (by decide) rfl (by decide) (fm_dec dtX11_clause 221 rfl) ?_
    refine pv_if_ne (pc := 419) 426 (by decide) (fm_dec dtX11_clause 222 rfl) (fun _ => ?_) (fun hc419 => by exfalso; exact (clBad.nz (M := M0) (tx := tx) (n := n) (k := kb) (a := ab) (by (repeat refine clBad.row (by omega) ?_); exact hB9)) hc419)
    refine pv_iconst (pc := 426) (v := 0) (by decide) (fm_dec dtX11_clause 225 rfl) ?_
    refine pv_iadd (pc := 427) (fm_dec dtX11_clause 226 rfl) ?_
    refine pv_iast (k := 3) (n := 6) (pc := 428) (by decide) rfl rfl (fm_inl (by decide)) (fm_dec dtX11_clause 227 rfl) ?_
    refine pv_aloadn (pc := 429) (n := 0) 0 rfl rfl (fm_dec dtX11_clause 228 rfl) ?_
    refine pv_bipush (pc := 430) (v := 59) (by decide) (fm_dec dtX11_clause 229 rfl) ?_
    refine pv_invV1 (k := 0) (d' := 2) (pc := 432) pcv_X11_173 (by decide) rfl (Nat.le_of_ble_eq_true rfl) (by decide) (fm_dec dtX11_clause 230 rfl) ?_
    refine c_sign1 (clBad.nz (M := M0) (tx := tx) (n := n) (k := kb) (a := ab) (by (repeat refine clBad.row (by omega) ?_); exact hB9)) ?_
    refine pv_then0 ?_
    exact pv_return (pc := 435) rfl (fm_dec dtX11_clause 231 rfl) (hbad _ kb ab (by simp only [spLife, spBind, eb]) (by (repeat refine clBad.row (by omega) ?_); exact hB9))
set_option maxRecDepth 20000 in
theorem cl_1 {Q : fmR → fmM → Prop} {M0 M : fmM} {tx : tX} {n q : Nat} {D : dD} {v2 v3 v4 : Option Value} (hS : rS M tx n q) (hf : M.1 0 5 = 0) (hR : dRep M D) (hD : dOk D) (hF : clI M0 M) (hl : D.2.2.1 < 24) (hok : ∀ (M' : fmM) (D' : dD) (q' : Nat), spFact tx D q = .inr (D', q') → clOk M0 M' tx n q' D' → Q (.inl none) M') (hbad : ∀ (M' : fmM) (k a : Nat), spFact tx D q = .inl (k, a) → clBad M0 M' tx n k a → Q (.inl none) M') : pvEv Tm 5 qX11_clause 93 [some (.ref 0), some (.int 1), v2, v3, v4] [] M Q := by
  refine pv_iloadn (pc := 93) (n := 1) 1 rfl rfl (fm_dec dtX11_clause 50 rfl) ?_
  refine pv_table (pc := 94) 203 (by decide) rfl (fm_dec dtX11_clause 51 rfl) ?_
  refine pv_aloadn (pc := 203) (n := 0) 0 rfl rfl (fm_dec dtX11_clause 97 rfl) ?_
  refine pv_getR (k := 0) (j := 15) (ci := 11) (pc := 204) 18 rfl (by decide) pfl_X11_34 (by decide) rfl (by decide) (fm_dec dtX11_clause 98 rfl) ?_
  refine pv_aloadn (pc := 207) (n := 0) 0 rfl rfl (fm_dec dtX11_clause 99 rfl) ?_
  refine pv_getR (k := 0) (j := 11) (ci := 11) (pc := 208) 3 rfl (by decide) pfl_X11_20 (by decide) rfl (by decide) (fm_dec dtX11_clause 100 rfl) ?_
  refine pv_iconst (pc := 211) (v := 1) (by decide) (fm_dec dtX11_clause 101 rfl) ?_
  refine pv_iald (k := 3) (n := 6) (pc := 212) (by decide) rfl rfl (fm_inl (by decide)) (fm_dec dtX11_clause 102 rfl) ?_
  refine pv_aald (k := 18) (n := 24) (r := (43 + D.2.2.1)) (pc := 213) (by decide) (Or.inr (Or.inr rfl)) rfl (rw_readFact.inb hR.2.1 hl) (rw_readFact.at hR.2.1 hl) (rw_readFact.2.2.2 _ hl).2.1 (fm_dec dtX11_clause 103 rfl) ?_
  refine pv_astoren (pc := 214) (n := 2) 2 rfl (by decide) rfl (fm_dec dtX11_clause 104 rfl) ?_
  dsimp only [List.set_cons_zero, List.set_cons_succ]
  refine pv_aloadn (pc := 215) (n := 2) 2 rfl rfl (fm_dec dtX11_clause 105 rfl) ?_
  refine pv_iconst (pc := 216) (v := 0) (by decide) (fm_dec dtX11_clause 106 rfl) ?_
  refine pv_aloadn (pc := 217) (n := 0) 0 rfl rfl (fm_dec dtX11_clause 107 rfl) ?_
  refine pv_invV0 (k := 0) (d' := 3) (pc := 218) pcv_X11_170 (by decide) rfl (Nat.le_of_ble_eq_true rfl) (by decide) (fm_dec dtX11_clause 108 rfl) ?_
  refine c_lifeHere (l := D.1) (⟨hS, hf, rdFr.refl M⟩ : rdOk M M tx n q).1 (⟨hS, hf, rdFr.refl M⟩ : rdOk M M tx n q).2.1 hR.1 hD.1 (fun M218 v218 q218 w218 e218 hw218 k218 => ?_) (fun Mb kb ab eb hB => ?_)  
  · refine pv_then1 ?_
    refine pv_iast (k := (43 + D.2.2.1)) (n := 3) (pc := 221) (rw_readFact.2.2.2 _ hl).2.2.1 (rw_readFact.2.2.2 _ hl).2.2.2.1 (rw_readFact.2.2.2 _ hl).2.2.2.2 (fm_inl (by decide)) (fm_dec dtX11_clause 109 rfl) ?_
    refine pv_aloadn (pc := 222) (n := 2) 2 rfl rfl (fm_dec dtX11_clause 110 rfl) ?_
    refine pv_iconst (pc := 223) (v := 1) (by decide) (fm_dec dtX11_clause 111 rfl) ?_
    refine pv_aloadn (pc := 224) (n := 0) 0 rfl rfl (fm_dec dtX11_clause 112 rfl) ?_
    refine pv_iconst (pc := 225) (v := 0) (by decide) (fm_dec dtX11_clause 113 rfl) ?_
    refine pv_iconst (pc := 226) (v := 5) (by decide) (fm_dec dtX11_clause 114 rfl) ?_
    refine pv_invV2 (k := 0) (d' := 2) (pc := 227) pcv_X11_163 (by decide) rfl (Nat.le_of_ble_eq_true rfl) (by decide) (fm_dec dtX11_clause 115 rfl) ?_
    refine r_num (tx := tx) (n := n) (p := q218) 0 5 ⟨by decide, by decide, by decide⟩ (by (repeat refine rS.row ?_ ⟨by omega, by omega⟩); exact k218.1) (by (repeat refine f0.row ?_ (by omega)); exact k218.2.1) (fun M227 v227 q227 w227 e227 hw227 k227 => ?_) (fun Mb kb ab eb hB => ?_)  
    · refine pv_then1 ?_
      refine pv_iast (k := (43 + D.2.2.1)) (n := 3) (pc := 230) (rw_readFact.2.2.2 _ hl).2.2.1 (rw_readFact.2.2.2 _ hl).2.2.2.1 (rw_readFact.2.2.2 _ hl).2.2.2.2 (fm_inl (by decide)) (fm_dec dtX11_clause 116 rfl) ?_
      refine pv_aloadn (pc := 231) (n := 2) 2 rfl rfl (fm_dec dtX11_clause 117 rfl) ?_
      refine pv_iconst (pc := 232) (v := 2) (by decide) (fm_dec dtX11_clause 118 rfl) ?_
      refine pv_aloadn (pc := 233) (n := 0) 0 rfl rfl (fm_dec dtX11_clause 119 rfl) ?_
      refine pv_iconst (pc := 234) (v := 1) (by decide) (fm_dec dtX11_clause 120 rfl) ?_
      refine pv_bipush (pc := 235) (v := 60) (by decide) (fm_dec dtX11_clause 121 rfl) ?_
      refine pv_invV2 (k := 0) (d' := 2) (pc := 237) pcv_X11_163 (by decide) rfl (Nat.le_of_ble_eq_true rfl) (by decide) (fm_dec dtX11_clause 122 rfl) ?_
      refine r_num (tx := tx) (n := n) (p := q227) 1 60 ⟨by decide, by decide, by decide⟩ (by (repeat refine rS.row ?_ ⟨by omega, by omega⟩); exact k227.1) (by (repeat refine f0.row ?_ (by omega)); exact k227.2.1) (fun M237 v237 q237 w237 e237 hw237 k237 => ?_) (fun Mb kb ab eb hB => ?_)  
      · refine pv_then1 ?_
        refine pv_iast (k := (43 + D.2.2.1)) (n := 3) (pc := 240) (rw_readFact.2.2.2 _ hl).2.2.1 (rw_readFact.2.2.2 _ hl).2.2.2.1 (rw_readFact.2.2.2 _ hl).2.2.2.2 (fm_inl (by decide)) (fm_dec dtX11_clause 123 rfl) ?_
        refine pv_goto (pc := 241) 403 (by decide) (fm_dec dtX11_clause 124 rfl) ?_
        refine pv_iloadn (pc := 403) (n := 1) 1 rfl rfl (fm_dec dtX11_clause 212 rfl) ?_
        refine pv_iconst (pc := 404) (v := 2) (by decide) (fm_dec dtX11_clause 213 rfl) ?_
        refine pv_icmp_ge (pc := 405) 429 (by decide) (fm_dec dtX11_clause 214 rfl) (fun hc405 => by exfalso; revert hc405; decide) (fun _ => ?_)
        refine pv_aloadn (pc := 408) (n := 0) 0 rfl rfl (fm_dec dtX11_clause 215 rfl) ?_
        refine pv_getR (k := 0) (j := 11) (ci := 11) (pc := 409) 3 rfl (by decide) pfl_X11_20 (by decide) rfl (by decide) (fm_dec dtX11_clause 216 rfl) ?_
        refine pv_iloadn (pc := 412) (n := 1) 1 rfl rfl (fm_dec dtX11_clause 217 rfl) ?_
        refine pv_dup2 (pc := 413) rfl rfl (fm_dec dtX11_clause 218 rfl) ?_
        refine pv_iald (k := 3) (n := 6) (pc := 414) (by decide) rfl rfl (fm_inl (by decide)) (fm_dec dtX11_clause 219 rfl) ?_
        refine pv_aloadn (pc := 415) (n := 0) 0 rfl rfl (fm_dec dtX11_clause 220 rfl) ?_
        refine pv_getI (k := 0) (j := 5) (ci := 11) (pc := 416) pfl_X11_117 (by decide) rfl (by decide) (fm_dec dtX11_clause 221 rfl) ?_
        refine pv_if_ne (pc := 419) 426 (by decide) (fm_dec dtX11_clause 222 rfl) (fun hc419 => by exfalso; exact hc419 (by (repeat refine f0.row ?_ (by omega)); exact k237.2.1)) (fun _ => ?_)
        refine pv_iconst (pc := 422) (v := 1) (by decide) (fm_dec dtX11_clause 223 rfl) ?_
        refine pv_goto (pc := 423) 427 (by decide) (fm_dec dtX11_clause 224 rfl) ?_
        refine pv_iadd (pc := 427) (fm_dec dtX11_clause 226 rfl) ?_
        refine pv_iast (k := 3) (n := 6) (pc := 428) (by decide) rfl rfl (fm_inl (by decide)) (fm_dec dtX11_clause 227 rfl) ?_
        refine pv_aloadn (pc := 429) (n := 0) 0 rfl rfl (fm_dec dtX11_clause 228 rfl) ?_
        refine pv_bipush (pc := 430) (v := 59) (by decide) (fm_dec dtX11_clause 229 rfl) ?_
        refine pv_invV1 (k := 0) (d' := 2) (pc := 432) pcv_X11_173 (by decide) rfl (Nat.le_of_ble_eq_true rfl) (by decide) (fm_dec dtX11_clause 230 rfl) ?_
        refine r_sign (tx := tx) (n := n) (p := q237) 59 ⟨by decide, by decide⟩ (by (repeat refine rS.row ?_ ⟨by omega, by omega⟩); exact k237.1) (by (repeat refine f0.row ?_ (by omega)); exact k237.2.1) (fun M432 q432 e432 k432 => ?_) (fun Mb kb ab eb hB => ?_)  
        · refine pv_then0 ?_
          exact pv_return (pc := 435) rfl (fm_dec dtX11_clause 231 rfl) (hok _ _ _ (by simp only [spFact, spBind, e218, e227, e237, e432]) ⟨k432.1, k432.2.1, rep_fact hR hD.1 hl k218.2.2 k227.2.2 k237.2.2 k432.2.2 hw218 hw227 hw237, ((((((((hF.rd k218.2.2).row (by omega)).rd k227.2.2).row (by omega)).rd k237.2.2).row (by omega)).row (Or.inl rfl)).rd k432.2.2).2, ((((((((hF.rd k218.2.2).row (by omega)).rd k227.2.2).row (by omega)).rd k237.2.2).row (by omega)).row (Or.inl rfl)).rd k432.2.2).1⟩)
        · refine pv_then0 ?_
          have hB9 := clBad.of (((((((hF.rd k218.2.2).row (by omega)).rd k227.2.2).row (by omega)).rd k237.2.2).row (by omega)).row (Or.inl rfl)).1 hB
          exact pv_return (pc := 435) rfl (fm_dec dtX11_clause 231 rfl) (hbad _ kb ab (by simp only [spFact, spBind, e218, e227, e237, eb]) (by (repeat refine clBad.row (by omega) ?_); exact hB9))
      · refine pv_then1 ?_
        have hB9 := clBad.of ((((hF.rd k218.2.2).row (by omega)).rd k227.2.2).row (by omega)).1 hB
        refine pv_iast (k := (43 + D.2.2.1)) (n := 3) (pc := 240) (rw_readFact.2.2.2 _ hl).2.2.1 (rw_readFact.2.2.2 _ hl).2.2.2.1 (rw_readFact.2.2.2 _ hl).2.2.2.2 (fm_inl (by decide)) (fm_dec dtX11_clause 123 rfl) ?_
        refine pv_goto (pc := 241) 403 (by decide) (fm_dec dtX11_clause 124 rfl) ?_
        refine pv_iloadn (pc := 403) (n := 1) 1 rfl rfl (fm_dec dtX11_clause 212 rfl) ?_
        refine pv_iconst (pc := 404) (v := 2) (by decide) (fm_dec dtX11_clause 213 rfl) ?_
        refine pv_icmp_ge (pc := 405) 429 (by decide) (fm_dec dtX11_clause 214 rfl) (fun hc405 => by exfalso; revert hc405; decide) (fun _ => ?_)
        refine pv_aloadn (pc := 408) (n := 0) 0 rfl rfl (fm_dec dtX11_clause 215 rfl) ?_
        refine pv_getR (k := 0) (j := 11) (ci := 11) (pc := 409) 3 rfl (by decide) pfl_X11_20 (by decide) rfl (by decide) (fm_dec dtX11_clause 216 rfl) ?_
        refine pv_iloadn (pc := 412) (n := 1) 1 rfl rfl (fm_dec dtX11_clause 217 rfl) ?_
        refine pv_dup2 (pc := 413) rfl rfl (fm_dec dtX11_clause 218 rfl) ?_
        refine pv_iald (k := 3) (n := 6) (pc := 414) (by decide) rfl rfl (fm_inl (by decide)) (fm_dec dtX11_clause 219 rfl) ?_
        refine pv_aloadn (pc := 415) (n := 0) 0 rfl rfl (fm_dec dtX11_clause 220 rfl) ?_
        refine pv_getI (k := 0) (j := 5) (ci := 11) (pc := 416) pfl_X11_117 (by decide) rfl (by decide) (fm_dec dtX11_clause 221 rfl) ?_
        refine pv_if_ne (pc := 419) 426 (by decide) (fm_dec dtX11_clause 222 rfl) (fun _ => ?_) (fun hc419 => by exfalso; exact (clBad.nz (M := M0) (tx := tx) (n := n) (k := kb) (a := ab) (by (repeat refine clBad.row (by omega) ?_); exact hB9)) hc419)
        refine pv_iconst (pc := 426) (v := 0) (by decide) (fm_dec dtX11_clause 225 rfl) ?_
        refine pv_iadd (pc := 427) (fm_dec dtX11_clause 226 rfl) ?_
        refine pv_iast (k := 3) (n := 6) (pc := 428) (by decide) rfl rfl (fm_inl (by decide)) (fm_dec dtX11_clause 227 rfl) ?_
        refine pv_aloadn (pc := 429) (n := 0) 0 rfl rfl (fm_dec dtX11_clause 228 rfl) ?_
        refine pv_bipush (pc := 430) (v := 59) (by decide) (fm_dec dtX11_clause 229 rfl) ?_
        refine pv_invV1 (k := 0) (d' := 2) (pc := 432) pcv_X11_173 (by decide) rfl (Nat.le_of_ble_eq_true rfl) (by decide) (fm_dec dtX11_clause 230 rfl) ?_
        refine c_sign1 (clBad.nz (M := M0) (tx := tx) (n := n) (k := kb) (a := ab) (by (repeat refine clBad.row (by omega) ?_); exact hB9)) ?_
        refine pv_then0 ?_
        exact pv_return (pc := 435) rfl (fm_dec dtX11_clause 231 rfl) (hbad _ kb ab (by simp only [spFact, spBind, e218, e227, eb]) (by (repeat refine clBad.row (by omega) ?_); exact hB9))
    · refine pv_then1 ?_
      have hB9 := clBad.of ((hF.rd k218.2.2).row (by omega)).1 hB
      refine pv_iast (k := (43 + D.2.2.1)) (n := 3) (pc := 230) (rw_readFact.2.2.2 _ hl).2.2.1 (rw_readFact.2.2.2 _ hl).2.2.2.1 (rw_readFact.2.2.2 _ hl).2.2.2.2 (fm_inl (by decide)) (fm_dec dtX11_clause 116 rfl) ?_
      refine pv_aloadn (pc := 231) (n := 2) 2 rfl rfl (fm_dec dtX11_clause 117 rfl) ?_
      refine pv_iconst (pc := 232) (v := 2) (by decide) (fm_dec dtX11_clause 118 rfl) ?_
      refine pv_aloadn (pc := 233) (n := 0) 0 rfl rfl (fm_dec dtX11_clause 119 rfl) ?_
      refine pv_iconst (pc := 234) (v := 1) (by decide) (fm_dec dtX11_clause 120 rfl) ?_
      refine pv_bipush (pc := 235) (v := 60) (by decide) (fm_dec dtX11_clause 121 rfl) ?_
      refine pv_invV2 (k := 0) (d' := 2) (pc := 237) pcv_X11_163 (by decide) rfl (Nat.le_of_ble_eq_true rfl) (by decide) (fm_dec dtX11_clause 122 rfl) ?_
      refine c_number1 (clBad.nz (M := M0) (tx := tx) (n := n) (k := kb) (a := ab) (by (repeat refine clBad.row (by omega) ?_); exact hB9)) ?_
      refine pv_then1 ?_
      refine pv_iast (k := (43 + D.2.2.1)) (n := 3) (pc := 240) (rw_readFact.2.2.2 _ hl).2.2.1 (rw_readFact.2.2.2 _ hl).2.2.2.1 (rw_readFact.2.2.2 _ hl).2.2.2.2 (fm_inl (by decide)) (fm_dec dtX11_clause 123 rfl) ?_
      refine pv_goto (pc := 241) 403 (by decide) (fm_dec dtX11_clause 124 rfl) ?_
      refine pv_iloadn (pc := 403) (n := 1) 1 rfl rfl (fm_dec dtX11_clause 212 rfl) ?_
      refine pv_iconst (pc := 404) (v := 2) (by decide) (fm_dec dtX11_clause 213 rfl) ?_
      refine pv_icmp_ge (pc := 405) 429 (by decide) (fm_dec dtX11_clause 214 rfl) (fun hc405 => by exfalso; revert hc405; decide) (fun _ => ?_)
      refine pv_aloadn (pc := 408) (n := 0) 0 rfl rfl (fm_dec dtX11_clause 215 rfl) ?_
      refine pv_getR (k := 0) (j := 11) (ci := 11) (pc := 409) 3 rfl (by decide) pfl_X11_20 (by decide) rfl (by decide) (fm_dec dtX11_clause 216 rfl) ?_
      refine pv_iloadn (pc := 412) (n := 1) 1 rfl rfl (fm_dec dtX11_clause 217 rfl) ?_
      refine pv_dup2 (pc := 413) rfl rfl (fm_dec dtX11_clause 218 rfl) ?_
      refine pv_iald (k := 3) (n := 6) (pc := 414) (by decide) rfl rfl (fm_inl (by decide)) (fm_dec dtX11_clause 219 rfl) ?_
      refine pv_aloadn (pc := 415) (n := 0) 0 rfl rfl (fm_dec dtX11_clause 220 rfl) ?_
      refine pv_getI (k := 0) (j := 5) (ci := 11) (pc := 416) pfl_X11_117 (by decide) rfl (by decide) (fm_dec dtX11_clause 221 rfl) ?_
      refine pv_if_ne (pc := 419) 426 (by decide) (fm_dec dtX11_clause 222 rfl) (fun _ => ?_) (fun hc419 => by exfalso; exact (clBad.nz (M := M0) (tx := tx) (n := n) (k := kb) (a := ab) (by (repeat refine clBad.row (by omega) ?_); exact hB9)) hc419)
      refine pv_iconst (pc := 426) (v := 0) (by decide) (fm_dec dtX11_clause 225 rfl) ?_
      refine pv_iadd (pc := 427) (fm_dec dtX11_clause 226 rfl) ?_
      refine pv_iast (k := 3) (n := 6) (pc := 428) (by decide) rfl rfl (fm_inl (by decide)) (fm_dec dtX11_clause 227 rfl) ?_
      refine pv_aloadn (pc := 429) (n := 0) 0 rfl rfl (fm_dec dtX11_clause 228 rfl) ?_
      refine pv_bipush (pc := 430) (v := 59) (by decide) (fm_dec dtX11_clause 229 rfl) ?_
      refine pv_invV1 (k := 0) (d' := 2) (pc := 432) pcv_X11_173 (by decide) rfl (Nat.le_of_ble_eq_true rfl) (by decide) (fm_dec dtX11_clause 230 rfl) ?_
      refine c_sign1 (clBad.nz (M := M0) (tx := tx) (n := n) (k := kb) (a := ab) (by (repeat refine clBad.row (by omega) ?_); exact hB9)) ?_
      refine pv_then0 ?_
      exact pv_return (pc := 435) rfl (fm_dec dtX11_clause 231 rfl) (hbad _ kb ab (by simp only [spFact, spBind, e218, eb]) (by (repeat refine clBad.row (by omega) ?_); exact hB9))
  · refine pv_then1 ?_
    have hB9 := clBad.of (hF).1 hB
    refine pv_iast (k := (43 + D.2.2.1)) (n := 3) (pc := 221) (rw_readFact.2.2.2 _ hl).2.2.1 (rw_readFact.2.2.2 _ hl).2.2.2.1 (rw_readFact.2.2.2 _ hl).2.2.2.2 (fm_inl (by decide)) (fm_dec dtX11_clause 109 rfl) ?_
    refine pv_aloadn (pc := 222) (n := 2) 2 rfl rfl (fm_dec dtX11_clause 110 rfl) ?_
    refine pv_iconst (pc := 223) (v := 1) (by decide) (fm_dec dtX11_clause 111 rfl) ?_
    refine pv_aloadn (pc := 224) (n := 0) 0 rfl rfl (fm_dec dtX11_clause 112 rfl) ?_
    refine pv_iconst (pc := 225) (v := 0) (by decide) (fm_dec dtX11_clause 113 rfl) ?_
    refine pv_iconst (pc := 226) (v := 5) (by decide) (fm_dec dtX11_clause 114 rfl) ?_
    refine pv_invV2 (k := 0) (d' := 2) (pc := 227) pcv_X11_163 (by decide) rfl (Nat.le_of_ble_eq_true rfl) (by decide) (fm_dec dtX11_clause 115 rfl) ?_
    refine c_number1 (clBad.nz (M := M0) (tx := tx) (n := n) (k := kb) (a := ab) (by (repeat refine clBad.row (by omega) ?_); exact hB9)) ?_
    refine pv_then1 ?_
    refine pv_iast (k := (43 + D.2.2.1)) (n := 3) (pc := 230) (rw_readFact.2.2.2 _ hl).2.2.1 (rw_readFact.2.2.2 _ hl).2.2.2.1 (rw_readFact.2.2.2 _ hl).2.2.2.2 (fm_inl (by decide)) (fm_dec dtX11_clause 116 rfl) ?_
    refine pv_aloadn (pc := 231) (n := 2) 2 rfl rfl (fm_dec dtX11_clause 117 rfl) ?_
    refine pv_iconst (pc := 232) (v := 2) (by decide) (fm_dec dtX11_clause 118 rfl) ?_
    refine pv_aloadn (pc := 233) (n := 0) 0 rfl rfl (fm_dec dtX11_clause 119 rfl) ?_
    refine pv_iconst (pc := 234) (v := 1) (by decide) (fm_dec dtX11_clause 120 rfl) ?_
    refine pv_bipush (pc := 235) (v := 60) (by decide) (fm_dec dtX11_clause 121 rfl) ?_
    refine pv_invV2 (k := 0) (d' := 2) (pc := 237) pcv_X11_163 (by decide) rfl (Nat.le_of_ble_eq_true rfl) (by decide) (fm_dec dtX11_clause 122 rfl) ?_
    refine c_number1 (clBad.nz (M := M0) (tx := tx) (n := n) (k := kb) (a := ab) (by (repeat refine clBad.row (by omega) ?_); exact hB9)) ?_
    refine pv_then1 ?_
    refine pv_iast (k := (43 + D.2.2.1)) (n := 3) (pc := 240) (rw_readFact.2.2.2 _ hl).2.2.1 (rw_readFact.2.2.2 _ hl).2.2.2.1 (rw_readFact.2.2.2 _ hl).2.2.2.2 (fm_inl (by decide)) (fm_dec dtX11_clause 123 rfl) ?_
    refine pv_goto (pc := 241) 403 (by decide) (fm_dec dtX11_clause 124 rfl) ?_
    refine pv_iloadn (pc := 403) (n := 1) 1 rfl rfl (fm_dec dtX11_clause 212 rfl) ?_
    refine pv_iconst (pc := 404) (v := 2) (by decide) (fm_dec dtX11_clause 213 rfl) ?_
    refine pv_icmp_ge (pc := 405) 429 (by decide) (fm_dec dtX11_clause 214 rfl) (fun hc405 => by exfalso; revert hc405; decide) (fun _ => ?_)
    refine pv_aloadn (pc := 408) (n := 0) 0 rfl rfl (fm_dec dtX11_clause 215 rfl) ?_
    refine pv_getR (k := 0) (j := 11) (ci := 11) (pc := 409) 3 rfl (by decide) pfl_X11_20 (by decide) rfl (by decide) (fm_dec dtX11_clause 216 rfl) ?_
    refine pv_iloadn (pc := 412) (n := 1) 1 rfl rfl (fm_dec dtX11_clause 217 rfl) ?_
    refine pv_dup2 (pc := 413) rfl rfl (fm_dec dtX11_clause 218 rfl) ?_
    refine pv_iald (k := 3) (n := 6) (pc := 414) (by decide) rfl rfl (fm_inl (by decide)) (fm_dec dtX11_clause 219 rfl) ?_
    refine pv_aloadn (pc := 415) (n := 0) 0 rfl rfl (fm_dec dtX11_clause 220 rfl) ?_
    refine pv_getI (k := 0) (j := 5) (ci := 11) (pc := 416) pfl_X11_117 (by decide) rfl (by decide) (fm_dec dtX11_clause 221 rfl) ?_
    refine pv_if_ne (pc := 419) 426 (by decide) (fm_dec dtX11_clause 222 rfl) (fun _ => ?_) (fun hc419 => by exfalso; exact (clBad.nz (M := M0) (tx := tx) (n := n) (k := kb) (a := ab) (by (repeat refine clBad.row (by omega) ?_); exact hB9)) hc419)
    refine pv_iconst (pc := 426) (v := 0) (by decide) (fm_dec dtX11_clause 225 rfl) ?_
    refine pv_iadd (pc := 427) (fm_dec dtX11_clause 226 rfl) ?_
    refine pv_iast (k := 3) (n := 6) (pc := 428) (by decide) rfl rfl (fm_inl (by decide)) (fm_dec dtX11_clause 227 rfl) ?_
    refine pv_aloadn (pc := 429) (n := 0) 0 rfl rfl (fm_dec dtX11_clause 228 rfl) ?_
    refine pv_bipush (pc := 430) (v := 59) (by decide) (fm_dec dtX11_clause 229 rfl) ?_
    refine pv_invV1 (k := 0) (d' := 2) (pc := 432) pcv_X11_173 (by decide) rfl (Nat.le_of_ble_eq_true rfl) (by decide) (fm_dec dtX11_clause 230 rfl) ?_
    refine c_sign1 (clBad.nz (M := M0) (tx := tx) (n := n) (k := kb) (a := ab) (by (repeat refine clBad.row (by omega) ?_); exact hB9)) ?_
    refine pv_then0 ?_
    exact pv_return (pc := 435) rfl (fm_dec dtX11_clause 231 rfl) (hbad _ kb ab (by simp only [spFact, spBind, eb]) (by (repeat refine clBad.row (by omega) ?_); exact hB9))
set_option maxRecDepth 20000 in
theorem cl_2 {Q : fmR → fmM → Prop} {M0 M : fmM} {tx : tX} {n q : Nat} {D : dD} {v2 v3 v4 : Option Value} (hS : rS M tx n q) (hf : M.1 0 5 = 0) (hR : dRep M D) (hD : dOk D) (hF : clI M0 M) (hok : ∀ (M' : fmM) (D' : dD) (q' : Nat), spRule tx D 2 q = .inr (D', q') → clOk M0 M' tx n q' D' → Q (.inl none) M') (hbad : ∀ (M' : fmM) (k a : Nat), spRule tx D 2 q = .inl (k, a) → clBad M0 M' tx n k a → Q (.inl none) M') : pvEv Tm 5 qX11_clause 93 [some (.ref 0), some (.int 2), v2, v3, v4] [] M Q := by
  refine pv_iloadn (pc := 93) (n := 1) 1 rfl rfl (fm_dec dtX11_clause 50 rfl) ?_
  refine pv_table (pc := 94) 345 (by decide) rfl (fm_dec dtX11_clause 51 rfl) ?_
  refine pv_aloadn (pc := 345) (n := 0) 0 rfl rfl (fm_dec dtX11_clause 180 rfl) ?_
  refine pv_iloadn (pc := 346) (n := 1) 1 rfl rfl (fm_dec dtX11_clause 181 rfl) ?_
  refine pv_iconst (pc := 347) (v := 2) (by decide) (fm_dec dtX11_clause 182 rfl) ?_
  refine pv_icmp_eq (pc := 348) 356 (by decide) (fm_dec dtX11_clause 183 rfl) (fun _ => ?_) (fun hc348 => by exfalso; revert hc348; decide)
  refine pv_iconst (pc := 356) (v := 1) (by decide) (fm_dec dtX11_clause 187 rfl) ?_
  refine pv_goto (pc := 357) 361 (by decide) (fm_dec dtX11_clause 188 rfl) ?_
  refine pv_iloadn (pc := 361) (n := 1) 1 rfl rfl (fm_dec dtX11_clause 190 rfl) ?_
  refine pv_iconst (pc := 362) (v := 2) (by decide) (fm_dec dtX11_clause 191 rfl) ?_
  refine pv_icmp_ne (pc := 363) 371 (by decide) (fm_dec dtX11_clause 192 rfl) (fun hc363 => by exfalso; revert hc363; decide) (fun _ => ?_)
  refine pv_bipush (pc := 366) (v := 12) (by decide) (fm_dec dtX11_clause 193 rfl) ?_
  refine pv_goto (pc := 368) 382 (by decide) (fm_dec dtX11_clause 194 rfl) ?_
  refine pv_invV2 (k := 0) (d' := 2) (pc := 382) pcv_X11_163 (by decide) rfl (Nat.le_of_ble_eq_true rfl) (by decide) (fm_dec dtX11_clause 201 rfl) ?_
  refine r_num (tx := tx) (n := n) (p := q) (dLo 2) (dHi 2) ⟨by decide, by decide, by decide⟩ (by (repeat refine rS.row ?_ ⟨by omega, by omega⟩); exact (⟨hS, hf, rdFr.refl M⟩ : rdOk M M tx n q).1) (by (repeat refine f0.row ?_ (by omega)); exact (⟨hS, hf, rdFr.refl M⟩ : rdOk M M tx n q).2.1) (fun M382 v382 q382 w382 e382 hw382 k382 => ?_) (fun Mb kb ab eb hB => ?_)  
  · refine pv_then1 ?_
    refine pv_istoren (pc := 385) (n := 2) 2 rfl (by decide) rfl (fm_dec dtX11_clause 202 rfl) ?_
    dsimp only [List.set_cons_zero, List.set_cons_succ]
    refine pv_aloadn (pc := 386) (n := 0) 0 rfl rfl (fm_dec dtX11_clause 203 rfl) ?_
    refine pv_getI (k := 0) (j := 5) (ci := 11) (pc := 387) pfl_X11_117 (by decide) rfl (by decide) (fm_dec dtX11_clause 204 rfl) ?_
    refine pv_if_ne (pc := 390) 403 (by decide) (fm_dec dtX11_clause 205 rfl) (fun hc390 => by exfalso; exact hc390 (by (repeat refine f0.row ?_ (by omega)); exact k382.2.1)) (fun _ => ?_)
    refine pv_aloadn (pc := 393) (n := 0) 0 rfl rfl (fm_dec dtX11_clause 206 rfl) ?_
    refine pv_getR (k := 0) (j := 11) (ci := 11) (pc := 394) 3 rfl (by decide) pfl_X11_20 (by decide) rfl (by decide) (fm_dec dtX11_clause 207 rfl) ?_
    refine pv_iloadn (pc := 397) (n := 1) 1 rfl rfl (fm_dec dtX11_clause 208 rfl) ?_
    refine pv_iloadn (pc := 398) (n := 2) 2 rfl rfl (fm_dec dtX11_clause 209 rfl) ?_
    refine pv_iast (k := 3) (n := 6) (pc := 399) (by decide) rfl rfl (fm_inl (by decide)) (fm_dec dtX11_clause 210 rfl) ?_
    refine pv_goto (pc := 400) 403 (by decide) (fm_dec dtX11_clause 211 rfl) ?_
    refine pv_iloadn (pc := 403) (n := 1) 1 rfl rfl (fm_dec dtX11_clause 212 rfl) ?_
    refine pv_iconst (pc := 404) (v := 2) (by decide) (fm_dec dtX11_clause 213 rfl) ?_
    refine pv_icmp_ge (pc := 405) 429 (by decide) (fm_dec dtX11_clause 214 rfl) (fun _ => ?_) (fun hc405 => by exfalso; revert hc405; decide)
    refine pv_aloadn (pc := 429) (n := 0) 0 rfl rfl (fm_dec dtX11_clause 228 rfl) ?_
    refine pv_bipush (pc := 430) (v := 59) (by decide) (fm_dec dtX11_clause 229 rfl) ?_
    refine pv_invV1 (k := 0) (d' := 2) (pc := 432) pcv_X11_173 (by decide) rfl (Nat.le_of_ble_eq_true rfl) (by decide) (fm_dec dtX11_clause 230 rfl) ?_
    refine r_sign (tx := tx) (n := n) (p := q382) 59 ⟨by decide, by decide⟩ (by (repeat refine rS.row ?_ ⟨by omega, by omega⟩); exact k382.1) (by (repeat refine f0.row ?_ (by omega)); exact k382.2.1) (fun M432 q432 e432 k432 => ?_) (fun Mb kb ab eb hB => ?_)  
    · refine pv_then0 ?_
      exact pv_return (pc := 435) rfl (fm_dec dtX11_clause 231 rfl) (hok _ _ _ (by simp only [spRule, spBind, e382, e432]) ⟨k432.1, k432.2.1, rep_rule (k := 2) (hR.rd k382.2.2) ⟨by decide, by decide⟩ k432.2.2 hw382, (((hF.rd k382.2.2).row (Or.inl rfl)).rd k432.2.2).2, (((hF.rd k382.2.2).row (Or.inl rfl)).rd k432.2.2).1⟩)
    · refine pv_then0 ?_
      have hB9 := clBad.of ((hF.rd k382.2.2).row (Or.inl rfl)).1 hB
      exact pv_return (pc := 435) rfl (fm_dec dtX11_clause 231 rfl) (hbad _ kb ab (by simp only [spRule, spBind, e382, eb]) (by (repeat refine clBad.row (by omega) ?_); exact hB9))
  · refine pv_then1 ?_
    have hB9 := clBad.of (hF).1 hB
    refine pv_istoren (pc := 385) (n := 2) 2 rfl (by decide) rfl (fm_dec dtX11_clause 202 rfl) ?_
    dsimp only [List.set_cons_zero, List.set_cons_succ]
    refine pv_aloadn (pc := 386) (n := 0) 0 rfl rfl (fm_dec dtX11_clause 203 rfl) ?_
    refine pv_getI (k := 0) (j := 5) (ci := 11) (pc := 387) pfl_X11_117 (by decide) rfl (by decide) (fm_dec dtX11_clause 204 rfl) ?_
    refine pv_if_ne (pc := 390) 403 (by decide) (fm_dec dtX11_clause 205 rfl) (fun _ => ?_) (fun hc390 => by exfalso; exact (clBad.nz (M := M0) (tx := tx) (n := n) (k := kb) (a := ab) (by (repeat refine clBad.row (by omega) ?_); exact hB9)) hc390)
    refine pv_iloadn (pc := 403) (n := 1) 1 rfl rfl (fm_dec dtX11_clause 212 rfl) ?_
    refine pv_iconst (pc := 404) (v := 2) (by decide) (fm_dec dtX11_clause 213 rfl) ?_
    refine pv_icmp_ge (pc := 405) 429 (by decide) (fm_dec dtX11_clause 214 rfl) (fun _ => ?_) (fun hc405 => by exfalso; revert hc405; decide)
    refine pv_aloadn (pc := 429) (n := 0) 0 rfl rfl (fm_dec dtX11_clause 228 rfl) ?_
    refine pv_bipush (pc := 430) (v := 59) (by decide) (fm_dec dtX11_clause 229 rfl) ?_
    refine pv_invV1 (k := 0) (d' := 2) (pc := 432) pcv_X11_173 (by decide) rfl (Nat.le_of_ble_eq_true rfl) (by decide) (fm_dec dtX11_clause 230 rfl) ?_
    refine c_sign1 (clBad.nz (M := M0) (tx := tx) (n := n) (k := kb) (a := ab) (by (repeat refine clBad.row (by omega) ?_); exact hB9)) ?_
    refine pv_then0 ?_
    exact pv_return (pc := 435) rfl (fm_dec dtX11_clause 231 rfl) (hbad _ kb ab (by simp only [spRule, spBind, eb]) (by (repeat refine clBad.row (by omega) ?_); exact hB9))
set_option maxRecDepth 20000 in
theorem cl_3 {Q : fmR → fmM → Prop} {M0 M : fmM} {tx : tX} {n q : Nat} {D : dD} {v2 v3 v4 : Option Value} (hS : rS M tx n q) (hf : M.1 0 5 = 0) (hR : dRep M D) (hD : dOk D) (hF : clI M0 M) (hok : ∀ (M' : fmM) (D' : dD) (q' : Nat), spRule tx D 3 q = .inr (D', q') → clOk M0 M' tx n q' D' → Q (.inl none) M') (hbad : ∀ (M' : fmM) (k a : Nat), spRule tx D 3 q = .inl (k, a) → clBad M0 M' tx n k a → Q (.inl none) M') : pvEv Tm 5 qX11_clause 93 [some (.ref 0), some (.int 3), v2, v3, v4] [] M Q := by
  refine pv_iloadn (pc := 93) (n := 1) 1 rfl rfl (fm_dec dtX11_clause 50 rfl) ?_
  refine pv_table (pc := 94) 345 (by decide) rfl (fm_dec dtX11_clause 51 rfl) ?_
  refine pv_aloadn (pc := 345) (n := 0) 0 rfl rfl (fm_dec dtX11_clause 180 rfl) ?_
  refine pv_iloadn (pc := 346) (n := 1) 1 rfl rfl (fm_dec dtX11_clause 181 rfl) ?_
  refine pv_iconst (pc := 347) (v := 2) (by decide) (fm_dec dtX11_clause 182 rfl) ?_
  refine pv_icmp_eq (pc := 348) 356 (by decide) (fm_dec dtX11_clause 183 rfl) (fun hc348 => by exfalso; revert hc348; decide) (fun _ => ?_)
  refine pv_iloadn (pc := 351) (n := 1) 1 rfl rfl (fm_dec dtX11_clause 184 rfl) ?_
  refine pv_iconst (pc := 352) (v := 5) (by decide) (fm_dec dtX11_clause 185 rfl) ?_
  refine pv_icmp_ne (pc := 353) 360 (by decide) (fm_dec dtX11_clause 186 rfl) (fun _ => ?_) (fun hc353 => by exfalso; revert hc353; decide)
  refine pv_iconst (pc := 360) (v := 0) (by decide) (fm_dec dtX11_clause 189 rfl) ?_
  refine pv_iloadn (pc := 361) (n := 1) 1 rfl rfl (fm_dec dtX11_clause 190 rfl) ?_
  refine pv_iconst (pc := 362) (v := 2) (by decide) (fm_dec dtX11_clause 191 rfl) ?_
  refine pv_icmp_ne (pc := 363) 371 (by decide) (fm_dec dtX11_clause 192 rfl) (fun _ => ?_) (fun hc363 => by exfalso; revert hc363; decide)
  refine pv_iloadn (pc := 371) (n := 1) 1 rfl rfl (fm_dec dtX11_clause 195 rfl) ?_
  refine pv_iconst (pc := 372) (v := 5) (by decide) (fm_dec dtX11_clause 196 rfl) ?_
  refine pv_icmp_ne (pc := 373) 380 (by decide) (fm_dec dtX11_clause 197 rfl) (fun _ => ?_) (fun hc373 => by exfalso; revert hc373; decide)
  refine pv_bipush (pc := 380) (v := 9) (by decide) (fm_dec dtX11_clause 200 rfl) ?_
  refine pv_invV2 (k := 0) (d' := 2) (pc := 382) pcv_X11_163 (by decide) rfl (Nat.le_of_ble_eq_true rfl) (by decide) (fm_dec dtX11_clause 201 rfl) ?_
  refine r_num (tx := tx) (n := n) (p := q) (dLo 3) (dHi 3) ⟨by decide, by decide, by decide⟩ (by (repeat refine rS.row ?_ ⟨by omega, by omega⟩); exact (⟨hS, hf, rdFr.refl M⟩ : rdOk M M tx n q).1) (by (repeat refine f0.row ?_ (by omega)); exact (⟨hS, hf, rdFr.refl M⟩ : rdOk M M tx n q).2.1) (fun M382 v382 q382 w382 e382 hw382 k382 => ?_) (fun Mb kb ab eb hB => ?_)  
  · refine pv_then1 ?_
    refine pv_istoren (pc := 385) (n := 2) 2 rfl (by decide) rfl (fm_dec dtX11_clause 202 rfl) ?_
    dsimp only [List.set_cons_zero, List.set_cons_succ]
    refine pv_aloadn (pc := 386) (n := 0) 0 rfl rfl (fm_dec dtX11_clause 203 rfl) ?_
    refine pv_getI (k := 0) (j := 5) (ci := 11) (pc := 387) pfl_X11_117 (by decide) rfl (by decide) (fm_dec dtX11_clause 204 rfl) ?_
    refine pv_if_ne (pc := 390) 403 (by decide) (fm_dec dtX11_clause 205 rfl) (fun hc390 => by exfalso; exact hc390 (by (repeat refine f0.row ?_ (by omega)); exact k382.2.1)) (fun _ => ?_)
    refine pv_aloadn (pc := 393) (n := 0) 0 rfl rfl (fm_dec dtX11_clause 206 rfl) ?_
    refine pv_getR (k := 0) (j := 11) (ci := 11) (pc := 394) 3 rfl (by decide) pfl_X11_20 (by decide) rfl (by decide) (fm_dec dtX11_clause 207 rfl) ?_
    refine pv_iloadn (pc := 397) (n := 1) 1 rfl rfl (fm_dec dtX11_clause 208 rfl) ?_
    refine pv_iloadn (pc := 398) (n := 2) 2 rfl rfl (fm_dec dtX11_clause 209 rfl) ?_
    refine pv_iast (k := 3) (n := 6) (pc := 399) (by decide) rfl rfl (fm_inl (by decide)) (fm_dec dtX11_clause 210 rfl) ?_
    refine pv_goto (pc := 400) 403 (by decide) (fm_dec dtX11_clause 211 rfl) ?_
    refine pv_iloadn (pc := 403) (n := 1) 1 rfl rfl (fm_dec dtX11_clause 212 rfl) ?_
    refine pv_iconst (pc := 404) (v := 2) (by decide) (fm_dec dtX11_clause 213 rfl) ?_
    refine pv_icmp_ge (pc := 405) 429 (by decide) (fm_dec dtX11_clause 214 rfl) (fun _ => ?_) (fun hc405 => by exfalso; revert hc405; decide)
    refine pv_aloadn (pc := 429) (n := 0) 0 rfl rfl (fm_dec dtX11_clause 228 rfl) ?_
    refine pv_bipush (pc := 430) (v := 59) (by decide) (fm_dec dtX11_clause 229 rfl) ?_
    refine pv_invV1 (k := 0) (d' := 2) (pc := 432) pcv_X11_173 (by decide) rfl (Nat.le_of_ble_eq_true rfl) (by decide) (fm_dec dtX11_clause 230 rfl) ?_
    refine r_sign (tx := tx) (n := n) (p := q382) 59 ⟨by decide, by decide⟩ (by (repeat refine rS.row ?_ ⟨by omega, by omega⟩); exact k382.1) (by (repeat refine f0.row ?_ (by omega)); exact k382.2.1) (fun M432 q432 e432 k432 => ?_) (fun Mb kb ab eb hB => ?_)  
    · refine pv_then0 ?_
      exact pv_return (pc := 435) rfl (fm_dec dtX11_clause 231 rfl) (hok _ _ _ (by simp only [spRule, spBind, e382, e432]) ⟨k432.1, k432.2.1, rep_rule (k := 3) (hR.rd k382.2.2) ⟨by decide, by decide⟩ k432.2.2 hw382, (((hF.rd k382.2.2).row (Or.inl rfl)).rd k432.2.2).2, (((hF.rd k382.2.2).row (Or.inl rfl)).rd k432.2.2).1⟩)
    · refine pv_then0 ?_
      have hB9 := clBad.of ((hF.rd k382.2.2).row (Or.inl rfl)).1 hB
      exact pv_return (pc := 435) rfl (fm_dec dtX11_clause 231 rfl) (hbad _ kb ab (by simp only [spRule, spBind, e382, eb]) (by (repeat refine clBad.row (by omega) ?_); exact hB9))
  · refine pv_then1 ?_
    have hB9 := clBad.of (hF).1 hB
    refine pv_istoren (pc := 385) (n := 2) 2 rfl (by decide) rfl (fm_dec dtX11_clause 202 rfl) ?_
    dsimp only [List.set_cons_zero, List.set_cons_succ]
    refine pv_aloadn (pc := 386) (n := 0) 0 rfl rfl (fm_dec dtX11_clause 203 rfl) ?_
    refine pv_getI (k := 0) (j := 5) (ci := 11) (pc := 387) pfl_X11_117 (by decide) rfl (by decide) (fm_dec dtX11_clause 204 rfl) ?_
    refine pv_if_ne (pc := 390) 403 (by decide) (fm_dec dtX11_clause 205 rfl) (fun _ => ?_) (fun hc390 => by exfalso; exact (clBad.nz (M := M0) (tx := tx) (n := n) (k := kb) (a := ab) (by (repeat refine clBad.row (by omega) ?_); exact hB9)) hc390)
    refine pv_iloadn (pc := 403) (n := 1) 1 rfl rfl (fm_dec dtX11_clause 212 rfl) ?_
    refine pv_iconst (pc := 404) (v := 2) (by decide) (fm_dec dtX11_clause 213 rfl) ?_
    refine pv_icmp_ge (pc := 405) 429 (by decide) (fm_dec dtX11_clause 214 rfl) (fun _ => ?_) (fun hc405 => by exfalso; revert hc405; decide)
    refine pv_aloadn (pc := 429) (n := 0) 0 rfl rfl (fm_dec dtX11_clause 228 rfl) ?_
    refine pv_bipush (pc := 430) (v := 59) (by decide) (fm_dec dtX11_clause 229 rfl) ?_
    refine pv_invV1 (k := 0) (d' := 2) (pc := 432) pcv_X11_173 (by decide) rfl (Nat.le_of_ble_eq_true rfl) (by decide) (fm_dec dtX11_clause 230 rfl) ?_
    refine c_sign1 (clBad.nz (M := M0) (tx := tx) (n := n) (k := kb) (a := ab) (by (repeat refine clBad.row (by omega) ?_); exact hB9)) ?_
    refine pv_then0 ?_
    exact pv_return (pc := 435) rfl (fm_dec dtX11_clause 231 rfl) (hbad _ kb ab (by simp only [spRule, spBind, eb]) (by (repeat refine clBad.row (by omega) ?_); exact hB9))
set_option maxRecDepth 20000 in
theorem cl_4 {Q : fmR → fmM → Prop} {M0 M : fmM} {tx : tX} {n q : Nat} {D : dD} {v2 v3 v4 : Option Value} (hS : rS M tx n q) (hf : M.1 0 5 = 0) (hR : dRep M D) (hD : dOk D) (hF : clI M0 M) (hok : ∀ (M' : fmM) (D' : dD) (q' : Nat), spRule tx D 4 q = .inr (D', q') → clOk M0 M' tx n q' D' → Q (.inl none) M') (hbad : ∀ (M' : fmM) (k a : Nat), spRule tx D 4 q = .inl (k, a) → clBad M0 M' tx n k a → Q (.inl none) M') : pvEv Tm 5 qX11_clause 93 [some (.ref 0), some (.int 4), v2, v3, v4] [] M Q := by
  refine pv_iloadn (pc := 93) (n := 1) 1 rfl rfl (fm_dec dtX11_clause 50 rfl) ?_
  refine pv_table (pc := 94) 345 (by decide) rfl (fm_dec dtX11_clause 51 rfl) ?_
  refine pv_aloadn (pc := 345) (n := 0) 0 rfl rfl (fm_dec dtX11_clause 180 rfl) ?_
  refine pv_iloadn (pc := 346) (n := 1) 1 rfl rfl (fm_dec dtX11_clause 181 rfl) ?_
  refine pv_iconst (pc := 347) (v := 2) (by decide) (fm_dec dtX11_clause 182 rfl) ?_
  refine pv_icmp_eq (pc := 348) 356 (by decide) (fm_dec dtX11_clause 183 rfl) (fun hc348 => by exfalso; revert hc348; decide) (fun _ => ?_)
  refine pv_iloadn (pc := 351) (n := 1) 1 rfl rfl (fm_dec dtX11_clause 184 rfl) ?_
  refine pv_iconst (pc := 352) (v := 5) (by decide) (fm_dec dtX11_clause 185 rfl) ?_
  refine pv_icmp_ne (pc := 353) 360 (by decide) (fm_dec dtX11_clause 186 rfl) (fun _ => ?_) (fun hc353 => by exfalso; revert hc353; decide)
  refine pv_iconst (pc := 360) (v := 0) (by decide) (fm_dec dtX11_clause 189 rfl) ?_
  refine pv_iloadn (pc := 361) (n := 1) 1 rfl rfl (fm_dec dtX11_clause 190 rfl) ?_
  refine pv_iconst (pc := 362) (v := 2) (by decide) (fm_dec dtX11_clause 191 rfl) ?_
  refine pv_icmp_ne (pc := 363) 371 (by decide) (fm_dec dtX11_clause 192 rfl) (fun _ => ?_) (fun hc363 => by exfalso; revert hc363; decide)
  refine pv_iloadn (pc := 371) (n := 1) 1 rfl rfl (fm_dec dtX11_clause 195 rfl) ?_
  refine pv_iconst (pc := 372) (v := 5) (by decide) (fm_dec dtX11_clause 196 rfl) ?_
  refine pv_icmp_ne (pc := 373) 380 (by decide) (fm_dec dtX11_clause 197 rfl) (fun _ => ?_) (fun hc373 => by exfalso; revert hc373; decide)
  refine pv_bipush (pc := 380) (v := 9) (by decide) (fm_dec dtX11_clause 200 rfl) ?_
  refine pv_invV2 (k := 0) (d' := 2) (pc := 382) pcv_X11_163 (by decide) rfl (Nat.le_of_ble_eq_true rfl) (by decide) (fm_dec dtX11_clause 201 rfl) ?_
  refine r_num (tx := tx) (n := n) (p := q) (dLo 4) (dHi 4) ⟨by decide, by decide, by decide⟩ (by (repeat refine rS.row ?_ ⟨by omega, by omega⟩); exact (⟨hS, hf, rdFr.refl M⟩ : rdOk M M tx n q).1) (by (repeat refine f0.row ?_ (by omega)); exact (⟨hS, hf, rdFr.refl M⟩ : rdOk M M tx n q).2.1) (fun M382 v382 q382 w382 e382 hw382 k382 => ?_) (fun Mb kb ab eb hB => ?_)  
  · refine pv_then1 ?_
    refine pv_istoren (pc := 385) (n := 2) 2 rfl (by decide) rfl (fm_dec dtX11_clause 202 rfl) ?_
    dsimp only [List.set_cons_zero, List.set_cons_succ]
    refine pv_aloadn (pc := 386) (n := 0) 0 rfl rfl (fm_dec dtX11_clause 203 rfl) ?_
    refine pv_getI (k := 0) (j := 5) (ci := 11) (pc := 387) pfl_X11_117 (by decide) rfl (by decide) (fm_dec dtX11_clause 204 rfl) ?_
    refine pv_if_ne (pc := 390) 403 (by decide) (fm_dec dtX11_clause 205 rfl) (fun hc390 => by exfalso; exact hc390 (by (repeat refine f0.row ?_ (by omega)); exact k382.2.1)) (fun _ => ?_)
    refine pv_aloadn (pc := 393) (n := 0) 0 rfl rfl (fm_dec dtX11_clause 206 rfl) ?_
    refine pv_getR (k := 0) (j := 11) (ci := 11) (pc := 394) 3 rfl (by decide) pfl_X11_20 (by decide) rfl (by decide) (fm_dec dtX11_clause 207 rfl) ?_
    refine pv_iloadn (pc := 397) (n := 1) 1 rfl rfl (fm_dec dtX11_clause 208 rfl) ?_
    refine pv_iloadn (pc := 398) (n := 2) 2 rfl rfl (fm_dec dtX11_clause 209 rfl) ?_
    refine pv_iast (k := 3) (n := 6) (pc := 399) (by decide) rfl rfl (fm_inl (by decide)) (fm_dec dtX11_clause 210 rfl) ?_
    refine pv_goto (pc := 400) 403 (by decide) (fm_dec dtX11_clause 211 rfl) ?_
    refine pv_iloadn (pc := 403) (n := 1) 1 rfl rfl (fm_dec dtX11_clause 212 rfl) ?_
    refine pv_iconst (pc := 404) (v := 2) (by decide) (fm_dec dtX11_clause 213 rfl) ?_
    refine pv_icmp_ge (pc := 405) 429 (by decide) (fm_dec dtX11_clause 214 rfl) (fun _ => ?_) (fun hc405 => by exfalso; revert hc405; decide)
    refine pv_aloadn (pc := 429) (n := 0) 0 rfl rfl (fm_dec dtX11_clause 228 rfl) ?_
    refine pv_bipush (pc := 430) (v := 59) (by decide) (fm_dec dtX11_clause 229 rfl) ?_
    refine pv_invV1 (k := 0) (d' := 2) (pc := 432) pcv_X11_173 (by decide) rfl (Nat.le_of_ble_eq_true rfl) (by decide) (fm_dec dtX11_clause 230 rfl) ?_
    refine r_sign (tx := tx) (n := n) (p := q382) 59 ⟨by decide, by decide⟩ (by (repeat refine rS.row ?_ ⟨by omega, by omega⟩); exact k382.1) (by (repeat refine f0.row ?_ (by omega)); exact k382.2.1) (fun M432 q432 e432 k432 => ?_) (fun Mb kb ab eb hB => ?_)  
    · refine pv_then0 ?_
      exact pv_return (pc := 435) rfl (fm_dec dtX11_clause 231 rfl) (hok _ _ _ (by simp only [spRule, spBind, e382, e432]) ⟨k432.1, k432.2.1, rep_rule (k := 4) (hR.rd k382.2.2) ⟨by decide, by decide⟩ k432.2.2 hw382, (((hF.rd k382.2.2).row (Or.inl rfl)).rd k432.2.2).2, (((hF.rd k382.2.2).row (Or.inl rfl)).rd k432.2.2).1⟩)
    · refine pv_then0 ?_
      have hB9 := clBad.of ((hF.rd k382.2.2).row (Or.inl rfl)).1 hB
      exact pv_return (pc := 435) rfl (fm_dec dtX11_clause 231 rfl) (hbad _ kb ab (by simp only [spRule, spBind, e382, eb]) (by (repeat refine clBad.row (by omega) ?_); exact hB9))
  · refine pv_then1 ?_
    have hB9 := clBad.of (hF).1 hB
    refine pv_istoren (pc := 385) (n := 2) 2 rfl (by decide) rfl (fm_dec dtX11_clause 202 rfl) ?_
    dsimp only [List.set_cons_zero, List.set_cons_succ]
    refine pv_aloadn (pc := 386) (n := 0) 0 rfl rfl (fm_dec dtX11_clause 203 rfl) ?_
    refine pv_getI (k := 0) (j := 5) (ci := 11) (pc := 387) pfl_X11_117 (by decide) rfl (by decide) (fm_dec dtX11_clause 204 rfl) ?_
    refine pv_if_ne (pc := 390) 403 (by decide) (fm_dec dtX11_clause 205 rfl) (fun _ => ?_) (fun hc390 => by exfalso; exact (clBad.nz (M := M0) (tx := tx) (n := n) (k := kb) (a := ab) (by (repeat refine clBad.row (by omega) ?_); exact hB9)) hc390)
    refine pv_iloadn (pc := 403) (n := 1) 1 rfl rfl (fm_dec dtX11_clause 212 rfl) ?_
    refine pv_iconst (pc := 404) (v := 2) (by decide) (fm_dec dtX11_clause 213 rfl) ?_
    refine pv_icmp_ge (pc := 405) 429 (by decide) (fm_dec dtX11_clause 214 rfl) (fun _ => ?_) (fun hc405 => by exfalso; revert hc405; decide)
    refine pv_aloadn (pc := 429) (n := 0) 0 rfl rfl (fm_dec dtX11_clause 228 rfl) ?_
    refine pv_bipush (pc := 430) (v := 59) (by decide) (fm_dec dtX11_clause 229 rfl) ?_
    refine pv_invV1 (k := 0) (d' := 2) (pc := 432) pcv_X11_173 (by decide) rfl (Nat.le_of_ble_eq_true rfl) (by decide) (fm_dec dtX11_clause 230 rfl) ?_
    refine c_sign1 (clBad.nz (M := M0) (tx := tx) (n := n) (k := kb) (a := ab) (by (repeat refine clBad.row (by omega) ?_); exact hB9)) ?_
    refine pv_then0 ?_
    exact pv_return (pc := 435) rfl (fm_dec dtX11_clause 231 rfl) (hbad _ kb ab (by simp only [spRule, spBind, eb]) (by (repeat refine clBad.row (by omega) ?_); exact hB9))
set_option maxRecDepth 20000 in
theorem cl_5 {Q : fmR → fmM → Prop} {M0 M : fmM} {tx : tX} {n q : Nat} {D : dD} {v2 v3 v4 : Option Value} (hS : rS M tx n q) (hf : M.1 0 5 = 0) (hR : dRep M D) (hD : dOk D) (hF : clI M0 M) (hok : ∀ (M' : fmM) (D' : dD) (q' : Nat), spRule tx D 5 q = .inr (D', q') → clOk M0 M' tx n q' D' → Q (.inl none) M') (hbad : ∀ (M' : fmM) (k a : Nat), spRule tx D 5 q = .inl (k, a) → clBad M0 M' tx n k a → Q (.inl none) M') : pvEv Tm 5 qX11_clause 93 [some (.ref 0), some (.int 5), v2, v3, v4] [] M Q := by
  refine pv_iloadn (pc := 93) (n := 1) 1 rfl rfl (fm_dec dtX11_clause 50 rfl) ?_
  refine pv_table (pc := 94) 345 (by decide) rfl (fm_dec dtX11_clause 51 rfl) ?_
  refine pv_aloadn (pc := 345) (n := 0) 0 rfl rfl (fm_dec dtX11_clause 180 rfl) ?_
  refine pv_iloadn (pc := 346) (n := 1) 1 rfl rfl (fm_dec dtX11_clause 181 rfl) ?_
  refine pv_iconst (pc := 347) (v := 2) (by decide) (fm_dec dtX11_clause 182 rfl) ?_
  refine pv_icmp_eq (pc := 348) 356 (by decide) (fm_dec dtX11_clause 183 rfl) (fun hc348 => by exfalso; revert hc348; decide) (fun _ => ?_)
  refine pv_iloadn (pc := 351) (n := 1) 1 rfl rfl (fm_dec dtX11_clause 184 rfl) ?_
  refine pv_iconst (pc := 352) (v := 5) (by decide) (fm_dec dtX11_clause 185 rfl) ?_
  refine pv_icmp_ne (pc := 353) 360 (by decide) (fm_dec dtX11_clause 186 rfl) (fun hc353 => by exfalso; revert hc353; decide) (fun _ => ?_)
  refine pv_iconst (pc := 356) (v := 1) (by decide) (fm_dec dtX11_clause 187 rfl) ?_
  refine pv_goto (pc := 357) 361 (by decide) (fm_dec dtX11_clause 188 rfl) ?_
  refine pv_iloadn (pc := 361) (n := 1) 1 rfl rfl (fm_dec dtX11_clause 190 rfl) ?_
  refine pv_iconst (pc := 362) (v := 2) (by decide) (fm_dec dtX11_clause 191 rfl) ?_
  refine pv_icmp_ne (pc := 363) 371 (by decide) (fm_dec dtX11_clause 192 rfl) (fun _ => ?_) (fun hc363 => by exfalso; revert hc363; decide)
  refine pv_iloadn (pc := 371) (n := 1) 1 rfl rfl (fm_dec dtX11_clause 195 rfl) ?_
  refine pv_iconst (pc := 372) (v := 5) (by decide) (fm_dec dtX11_clause 196 rfl) ?_
  refine pv_icmp_ne (pc := 373) 380 (by decide) (fm_dec dtX11_clause 197 rfl) (fun hc373 => by exfalso; revert hc373; decide) (fun _ => ?_)
  refine pv_iconst (pc := 376) (v := 4) (by decide) (fm_dec dtX11_clause 198 rfl) ?_
  refine pv_goto (pc := 377) 382 (by decide) (fm_dec dtX11_clause 199 rfl) ?_
  refine pv_invV2 (k := 0) (d' := 2) (pc := 382) pcv_X11_163 (by decide) rfl (Nat.le_of_ble_eq_true rfl) (by decide) (fm_dec dtX11_clause 201 rfl) ?_
  refine r_num (tx := tx) (n := n) (p := q) (dLo 5) (dHi 5) ⟨by decide, by decide, by decide⟩ (by (repeat refine rS.row ?_ ⟨by omega, by omega⟩); exact (⟨hS, hf, rdFr.refl M⟩ : rdOk M M tx n q).1) (by (repeat refine f0.row ?_ (by omega)); exact (⟨hS, hf, rdFr.refl M⟩ : rdOk M M tx n q).2.1) (fun M382 v382 q382 w382 e382 hw382 k382 => ?_) (fun Mb kb ab eb hB => ?_)  
  · refine pv_then1 ?_
    refine pv_istoren (pc := 385) (n := 2) 2 rfl (by decide) rfl (fm_dec dtX11_clause 202 rfl) ?_
    dsimp only [List.set_cons_zero, List.set_cons_succ]
    refine pv_aloadn (pc := 386) (n := 0) 0 rfl rfl (fm_dec dtX11_clause 203 rfl) ?_
    refine pv_getI (k := 0) (j := 5) (ci := 11) (pc := 387) pfl_X11_117 (by decide) rfl (by decide) (fm_dec dtX11_clause 204 rfl) ?_
    refine pv_if_ne (pc := 390) 403 (by decide) (fm_dec dtX11_clause 205 rfl) (fun hc390 => by exfalso; exact hc390 (by (repeat refine f0.row ?_ (by omega)); exact k382.2.1)) (fun _ => ?_)
    refine pv_aloadn (pc := 393) (n := 0) 0 rfl rfl (fm_dec dtX11_clause 206 rfl) ?_
    refine pv_getR (k := 0) (j := 11) (ci := 11) (pc := 394) 3 rfl (by decide) pfl_X11_20 (by decide) rfl (by decide) (fm_dec dtX11_clause 207 rfl) ?_
    refine pv_iloadn (pc := 397) (n := 1) 1 rfl rfl (fm_dec dtX11_clause 208 rfl) ?_
    refine pv_iloadn (pc := 398) (n := 2) 2 rfl rfl (fm_dec dtX11_clause 209 rfl) ?_
    refine pv_iast (k := 3) (n := 6) (pc := 399) (by decide) rfl rfl (fm_inl (by decide)) (fm_dec dtX11_clause 210 rfl) ?_
    refine pv_goto (pc := 400) 403 (by decide) (fm_dec dtX11_clause 211 rfl) ?_
    refine pv_iloadn (pc := 403) (n := 1) 1 rfl rfl (fm_dec dtX11_clause 212 rfl) ?_
    refine pv_iconst (pc := 404) (v := 2) (by decide) (fm_dec dtX11_clause 213 rfl) ?_
    refine pv_icmp_ge (pc := 405) 429 (by decide) (fm_dec dtX11_clause 214 rfl) (fun _ => ?_) (fun hc405 => by exfalso; revert hc405; decide)
    refine pv_aloadn (pc := 429) (n := 0) 0 rfl rfl (fm_dec dtX11_clause 228 rfl) ?_
    refine pv_bipush (pc := 430) (v := 59) (by decide) (fm_dec dtX11_clause 229 rfl) ?_
    refine pv_invV1 (k := 0) (d' := 2) (pc := 432) pcv_X11_173 (by decide) rfl (Nat.le_of_ble_eq_true rfl) (by decide) (fm_dec dtX11_clause 230 rfl) ?_
    refine r_sign (tx := tx) (n := n) (p := q382) 59 ⟨by decide, by decide⟩ (by (repeat refine rS.row ?_ ⟨by omega, by omega⟩); exact k382.1) (by (repeat refine f0.row ?_ (by omega)); exact k382.2.1) (fun M432 q432 e432 k432 => ?_) (fun Mb kb ab eb hB => ?_)  
    · refine pv_then0 ?_
      exact pv_return (pc := 435) rfl (fm_dec dtX11_clause 231 rfl) (hok _ _ _ (by simp only [spRule, spBind, e382, e432]) ⟨k432.1, k432.2.1, rep_rule (k := 5) (hR.rd k382.2.2) ⟨by decide, by decide⟩ k432.2.2 hw382, (((hF.rd k382.2.2).row (Or.inl rfl)).rd k432.2.2).2, (((hF.rd k382.2.2).row (Or.inl rfl)).rd k432.2.2).1⟩)
    · refine pv_then0 ?_
      have hB9 := clBad.of ((hF.rd k382.2.2).row (Or.inl rfl)).1 hB
      exact pv_return (pc := 435) rfl (fm_dec dtX11_clause 231 rfl) (hbad _ kb ab (by simp only [spRule, spBind, e382, eb]) (by (repeat refine clBad.row (by omega) ?_); exact hB9))
  · refine pv_then1 ?_
    have hB9 := clBad.of (hF).1 hB
    refine pv_istoren (pc := 385) (n := 2) 2 rfl (by decide) rfl (fm_dec dtX11_clause 202 rfl) ?_
    dsimp only [List.set_cons_zero, List.set_cons_succ]
    refine pv_aloadn (pc := 386) (n := 0) 0 rfl rfl (fm_dec dtX11_clause 203 rfl) ?_
    refine pv_getI (k := 0) (j := 5) (ci := 11) (pc := 387) pfl_X11_117 (by decide) rfl (by decide) (fm_dec dtX11_clause 204 rfl) ?_
    refine pv_if_ne (pc := 390) 403 (by decide) (fm_dec dtX11_clause 205 rfl) (fun _ => ?_) (fun hc390 => by exfalso; exact (clBad.nz (M := M0) (tx := tx) (n := n) (k := kb) (a := ab) (by (repeat refine clBad.row (by omega) ?_); exact hB9)) hc390)
    refine pv_iloadn (pc := 403) (n := 1) 1 rfl rfl (fm_dec dtX11_clause 212 rfl) ?_
    refine pv_iconst (pc := 404) (v := 2) (by decide) (fm_dec dtX11_clause 213 rfl) ?_
    refine pv_icmp_ge (pc := 405) 429 (by decide) (fm_dec dtX11_clause 214 rfl) (fun _ => ?_) (fun hc405 => by exfalso; revert hc405; decide)
    refine pv_aloadn (pc := 429) (n := 0) 0 rfl rfl (fm_dec dtX11_clause 228 rfl) ?_
    refine pv_bipush (pc := 430) (v := 59) (by decide) (fm_dec dtX11_clause 229 rfl) ?_
    refine pv_invV1 (k := 0) (d' := 2) (pc := 432) pcv_X11_173 (by decide) rfl (Nat.le_of_ble_eq_true rfl) (by decide) (fm_dec dtX11_clause 230 rfl) ?_
    refine c_sign1 (clBad.nz (M := M0) (tx := tx) (n := n) (k := kb) (a := ab) (by (repeat refine clBad.row (by omega) ?_); exact hB9)) ?_
    refine pv_then0 ?_
    exact pv_return (pc := 435) rfl (fm_dec dtX11_clause 231 rfl) (hbad _ kb ab (by simp only [spRule, spBind, eb]) (by (repeat refine clBad.row (by omega) ?_); exact hB9))
set_option maxRecDepth 20000 in
theorem cl_6 {Q : fmR → fmM → Prop} {M0 M : fmM} {tx : tX} {n q : Nat} {D : dD} {v2 v3 v4 : Option Value} (hS : rS M tx n q) (hf : M.1 0 5 = 0) (hR : dRep M D) (hD : dOk D) (hF : clI M0 M) (hok : ∀ (M' : fmM) (D' : dD) (q' : Nat), spHas tx D q = .inr (D', q') → clOk M0 M' tx n q' D' → Q (.inl none) M') (hbad : ∀ (M' : fmM) (k a : Nat), spHas tx D q = .inl (k, a) → clBad M0 M' tx n k a → Q (.inl none) M') : pvEv Tm 5 qX11_clause 93 [some (.ref 0), some (.int 6), v2, v3, v4] [] M Q := by
  refine pv_iloadn (pc := 93) (n := 1) 1 rfl rfl (fm_dec dtX11_clause 50 rfl) ?_
  refine pv_table (pc := 94) 244 (by decide) rfl (fm_dec dtX11_clause 51 rfl) ?_
  refine pv_aloadn (pc := 244) (n := 0) 0 rfl rfl (fm_dec dtX11_clause 125 rfl) ?_
  refine pv_invV0 (k := 0) (d' := 3) (pc := 245) pcv_X11_170 (by decide) rfl (Nat.le_of_ble_eq_true rfl) (by decide) (fm_dec dtX11_clause 126 rfl) ?_
  refine c_lifeHere (l := D.1) (⟨hS, hf, rdFr.refl M⟩ : rdOk M M tx n q).1 (⟨hS, hf, rdFr.refl M⟩ : rdOk M M tx n q).2.1 hR.1 hD.1 (fun M245 v245 q245 w245 e245 hw245 k245 => ?_) (fun Mb kb ab eb hB => ?_)  
  · refine pv_then1 ?_
    have hvl : v245 < D.1 := (by have := (spNum_ok hS.2.2.2.1 hS.2.2.1 e245).2.2.2; omega)
    have hv8 : v245 < 8 := (by have := hD.1; omega)
    refine pv_istoren (pc := 248) (n := 2) 2 rfl (by decide) rfl (fm_dec dtX11_clause 127 rfl) ?_
    dsimp only [List.set_cons_zero, List.set_cons_succ]
    refine pv_aloadn (pc := 249) (n := 0) 0 rfl rfl (fm_dec dtX11_clause 128 rfl) ?_
    refine pv_iconst (pc := 250) (v := 0) (by decide) (fm_dec dtX11_clause 129 rfl) ?_
    refine pv_bipush (pc := 251) (v := 40) (by decide) (fm_dec dtX11_clause 130 rfl) ?_
    refine pv_invV2 (k := 0) (d' := 2) (pc := 253) pcv_X11_163 (by decide) rfl (Nat.le_of_ble_eq_true rfl) (by decide) (fm_dec dtX11_clause 131 rfl) ?_
    refine r_num (tx := tx) (n := n) (p := q245) 0 40 ⟨by decide, by decide, by decide⟩ (by (repeat refine rS.row ?_ ⟨by omega, by omega⟩); exact k245.1) (by (repeat refine f0.row ?_ (by omega)); exact k245.2.1) (fun M253 v253 q253 w253 e253 hw253 k253 => ?_) (fun Mb kb ab eb hB => ?_)  
    · refine pv_then1 ?_
      refine pv_istoren (pc := 256) (n := 3) 3 rfl (by decide) rfl (fm_dec dtX11_clause 132 rfl) ?_
      dsimp only [List.set_cons_zero, List.set_cons_succ]
      refine pv_aloadn (pc := 257) (n := 0) 0 rfl rfl (fm_dec dtX11_clause 133 rfl) ?_
      refine pv_getI (k := 0) (j := 5) (ci := 11) (pc := 258) pfl_X11_117 (by decide) rfl (by decide) (fm_dec dtX11_clause 134 rfl) ?_
      refine pv_if_ne (pc := 261) 403 (by decide) (fm_dec dtX11_clause 135 rfl) (fun hc261 => by exfalso; exact hc261 (by (repeat refine f0.row ?_ (by omega)); exact k253.2.1)) (fun _ => ?_)
      refine pv_aloadn (pc := 264) (n := 0) 0 rfl rfl (fm_dec dtX11_clause 136 rfl) ?_
      refine pv_getR (k := 0) (j := 13) (ci := 11) (pc := 265) 16 rfl (by decide) pfl_X11_28 (by decide) rfl (by decide) (fm_dec dtX11_clause 137 rfl) ?_
      refine pv_iloadn (pc := 268) (n := 2) 2 rfl rfl (fm_dec dtX11_clause 138 rfl) ?_
      refine pv_aald (k := 16) (n := 8) (r := (27 + v245)) (pc := 269) (by decide) (Or.inr (Or.inr rfl)) rfl (rw_readLife.inb hw245 hv8) (rw_readLife.at hw245 hv8) (rw_readLife.2.2.2 _ hv8).2.1 (fm_dec dtX11_clause 139 rfl) ?_
      refine pv_iconst (pc := 270) (v := 4) (by decide) (fm_dec dtX11_clause 140 rfl) ?_
      refine pv_iloadn (pc := 271) (n := 3) 3 rfl rfl (fm_dec dtX11_clause 141 rfl) ?_
      refine pv_iast (k := (27 + v245)) (n := 6) (pc := 272) (rw_readLife.2.2.2 _ hv8).2.2.1 (rw_readLife.2.2.2 _ hv8).2.2.2.1 (rw_readLife.2.2.2 _ hv8).2.2.2.2 (fm_inl (by decide)) (fm_dec dtX11_clause 142 rfl) ?_
      refine pv_goto (pc := 273) 403 (by decide) (fm_dec dtX11_clause 143 rfl) ?_
      refine pv_iloadn (pc := 403) (n := 1) 1 rfl rfl (fm_dec dtX11_clause 212 rfl) ?_
      refine pv_iconst (pc := 404) (v := 2) (by decide) (fm_dec dtX11_clause 213 rfl) ?_
      refine pv_icmp_ge (pc := 405) 429 (by decide) (fm_dec dtX11_clause 214 rfl) (fun _ => ?_) (fun hc405 => by exfalso; revert hc405; decide)
      refine pv_aloadn (pc := 429) (n := 0) 0 rfl rfl (fm_dec dtX11_clause 228 rfl) ?_
      refine pv_bipush (pc := 430) (v := 59) (by decide) (fm_dec dtX11_clause 229 rfl) ?_
      refine pv_invV1 (k := 0) (d' := 2) (pc := 432) pcv_X11_173 (by decide) rfl (Nat.le_of_ble_eq_true rfl) (by decide) (fm_dec dtX11_clause 230 rfl) ?_
      refine r_sign (tx := tx) (n := n) (p := q253) 59 ⟨by decide, by decide⟩ (by (repeat refine rS.row ?_ ⟨by omega, by omega⟩); exact k253.1) (by (repeat refine f0.row ?_ (by omega)); exact k253.2.1) (fun M432 q432 e432 k432 => ?_) (fun Mb kb ab eb hB => ?_)  
      · refine pv_then0 ?_
        exact pv_return (pc := 435) rfl (fm_dec dtX11_clause 231 rfl) (hok _ _ _ (by simp only [spHas, spBind, e245, e253, e432]) ⟨k432.1, k432.2.1, rep_set (c := 4) ((hR.rd k245.2.2).rd k253.2.2) hvl hD.1 k432.2.2 hw253, ((((hF.rd k245.2.2).rd k253.2.2).row (by omega)).rd k432.2.2).2, ((((hF.rd k245.2.2).rd k253.2.2).row (by omega)).rd k432.2.2).1⟩)
      · refine pv_then0 ?_
        have hB9 := clBad.of (((hF.rd k245.2.2).rd k253.2.2).row (by omega)).1 hB
        exact pv_return (pc := 435) rfl (fm_dec dtX11_clause 231 rfl) (hbad _ kb ab (by simp only [spHas, spBind, e245, e253, eb]) (by (repeat refine clBad.row (by omega) ?_); exact hB9))
    · refine pv_then1 ?_
      have hB9 := clBad.of (hF.rd k245.2.2).1 hB
      refine pv_istoren (pc := 256) (n := 3) 3 rfl (by decide) rfl (fm_dec dtX11_clause 132 rfl) ?_
      dsimp only [List.set_cons_zero, List.set_cons_succ]
      refine pv_aloadn (pc := 257) (n := 0) 0 rfl rfl (fm_dec dtX11_clause 133 rfl) ?_
      refine pv_getI (k := 0) (j := 5) (ci := 11) (pc := 258) pfl_X11_117 (by decide) rfl (by decide) (fm_dec dtX11_clause 134 rfl) ?_
      refine pv_if_ne (pc := 261) 403 (by decide) (fm_dec dtX11_clause 135 rfl) (fun _ => ?_) (fun hc261 => by exfalso; exact (clBad.nz (M := M0) (tx := tx) (n := n) (k := kb) (a := ab) (by (repeat refine clBad.row (by omega) ?_); exact hB9)) hc261)
      refine pv_iloadn (pc := 403) (n := 1) 1 rfl rfl (fm_dec dtX11_clause 212 rfl) ?_
      refine pv_iconst (pc := 404) (v := 2) (by decide) (fm_dec dtX11_clause 213 rfl) ?_
      refine pv_icmp_ge (pc := 405) 429 (by decide) (fm_dec dtX11_clause 214 rfl) (fun _ => ?_) (fun hc405 => by exfalso; revert hc405; decide)
      refine pv_aloadn (pc := 429) (n := 0) 0 rfl rfl (fm_dec dtX11_clause 228 rfl) ?_
      refine pv_bipush (pc := 430) (v := 59) (by decide) (fm_dec dtX11_clause 229 rfl) ?_
      refine pv_invV1 (k := 0) (d' := 2) (pc := 432) pcv_X11_173 (by decide) rfl (Nat.le_of_ble_eq_true rfl) (by decide) (fm_dec dtX11_clause 230 rfl) ?_
      refine c_sign1 (clBad.nz (M := M0) (tx := tx) (n := n) (k := kb) (a := ab) (by (repeat refine clBad.row (by omega) ?_); exact hB9)) ?_
      refine pv_then0 ?_
      exact pv_return (pc := 435) rfl (fm_dec dtX11_clause 231 rfl) (hbad _ kb ab (by simp only [spHas, spBind, e245, eb]) (by (repeat refine clBad.row (by omega) ?_); exact hB9))
  · refine pv_then1 ?_
    have hB9 := clBad.of (hF).1 hB
    refine pv_istoren (pc := 248) (n := 2) 2 rfl (by decide) rfl (fm_dec dtX11_clause 127 rfl) ?_
    dsimp only [List.set_cons_zero, List.set_cons_succ]
    refine pv_aloadn (pc := 249) (n := 0) 0 rfl rfl (fm_dec dtX11_clause 128 rfl) ?_
    refine pv_iconst (pc := 250) (v := 0) (by decide) (fm_dec dtX11_clause 129 rfl) ?_
    refine pv_bipush (pc := 251) (v := 40) (by decide) (fm_dec dtX11_clause 130 rfl) ?_
    refine pv_invV2 (k := 0) (d' := 2) (pc := 253) pcv_X11_163 (by decide) rfl (Nat.le_of_ble_eq_true rfl) (by decide) (fm_dec dtX11_clause 131 rfl) ?_
    refine c_number1 (clBad.nz (M := M0) (tx := tx) (n := n) (k := kb) (a := ab) (by (repeat refine clBad.row (by omega) ?_); exact hB9)) ?_
    refine pv_then1 ?_
    refine pv_istoren (pc := 256) (n := 3) 3 rfl (by decide) rfl (fm_dec dtX11_clause 132 rfl) ?_
    dsimp only [List.set_cons_zero, List.set_cons_succ]
    refine pv_aloadn (pc := 257) (n := 0) 0 rfl rfl (fm_dec dtX11_clause 133 rfl) ?_
    refine pv_getI (k := 0) (j := 5) (ci := 11) (pc := 258) pfl_X11_117 (by decide) rfl (by decide) (fm_dec dtX11_clause 134 rfl) ?_
    refine pv_if_ne (pc := 261) 403 (by decide) (fm_dec dtX11_clause 135 rfl) (fun _ => ?_) (fun hc261 => by exfalso; exact (clBad.nz (M := M0) (tx := tx) (n := n) (k := kb) (a := ab) (by (repeat refine clBad.row (by omega) ?_); exact hB9)) hc261)
    refine pv_iloadn (pc := 403) (n := 1) 1 rfl rfl (fm_dec dtX11_clause 212 rfl) ?_
    refine pv_iconst (pc := 404) (v := 2) (by decide) (fm_dec dtX11_clause 213 rfl) ?_
    refine pv_icmp_ge (pc := 405) 429 (by decide) (fm_dec dtX11_clause 214 rfl) (fun _ => ?_) (fun hc405 => by exfalso; revert hc405; decide)
    refine pv_aloadn (pc := 429) (n := 0) 0 rfl rfl (fm_dec dtX11_clause 228 rfl) ?_
    refine pv_bipush (pc := 430) (v := 59) (by decide) (fm_dec dtX11_clause 229 rfl) ?_
    refine pv_invV1 (k := 0) (d' := 2) (pc := 432) pcv_X11_173 (by decide) rfl (Nat.le_of_ble_eq_true rfl) (by decide) (fm_dec dtX11_clause 230 rfl) ?_
    refine c_sign1 (clBad.nz (M := M0) (tx := tx) (n := n) (k := kb) (a := ab) (by (repeat refine clBad.row (by omega) ?_); exact hB9)) ?_
    refine pv_then0 ?_
    exact pv_return (pc := 435) rfl (fm_dec dtX11_clause 231 rfl) (hbad _ kb ab (by simp only [spHas, spBind, eb]) (by (repeat refine clBad.row (by omega) ?_); exact hB9))
set_option maxRecDepth 20000 in
theorem cl_7 {Q : fmR → fmM → Prop} {M0 M : fmM} {tx : tX} {n q : Nat} {D : dD} {v2 v3 v4 : Option Value} (hS : rS M tx n q) (hf : M.1 0 5 = 0) (hR : dRep M D) (hD : dOk D) (hF : clI M0 M) (hok : ∀ (M' : fmM) (D' : dD) (q' : Nat), spBy tx D q = .inr (D', q') → clOk M0 M' tx n q' D' → Q (.inl none) M') (hbad : ∀ (M' : fmM) (k a : Nat), spBy tx D q = .inl (k, a) → clBad M0 M' tx n k a → Q (.inl none) M') : pvEv Tm 5 qX11_clause 93 [some (.ref 0), some (.int 7), v2, v3, v4] [] M Q := by
  refine pv_iloadn (pc := 93) (n := 1) 1 rfl rfl (fm_dec dtX11_clause 50 rfl) ?_
  refine pv_table (pc := 94) 276 (by decide) rfl (fm_dec dtX11_clause 51 rfl) ?_
  refine pv_aloadn (pc := 276) (n := 0) 0 rfl rfl (fm_dec dtX11_clause 144 rfl) ?_
  refine pv_invV0 (k := 0) (d' := 3) (pc := 277) pcv_X11_170 (by decide) rfl (Nat.le_of_ble_eq_true rfl) (by decide) (fm_dec dtX11_clause 145 rfl) ?_
  refine c_lifeHere (l := D.1) (⟨hS, hf, rdFr.refl M⟩ : rdOk M M tx n q).1 (⟨hS, hf, rdFr.refl M⟩ : rdOk M M tx n q).2.1 hR.1 hD.1 (fun M277 v277 q277 w277 e277 hw277 k277 => ?_) (fun Mb kb ab eb hB => ?_)  
  · refine pv_then1 ?_
    have hvl : v277 < D.1 := (by have := (spNum_ok hS.2.2.2.1 hS.2.2.1 e277).2.2.2; omega)
    have hv8 : v277 < 8 := (by have := hD.1; omega)
    refine pv_istoren (pc := 280) (n := 2) 2 rfl (by decide) rfl (fm_dec dtX11_clause 146 rfl) ?_
    dsimp only [List.set_cons_zero, List.set_cons_succ]
    refine pv_aloadn (pc := 281) (n := 0) 0 rfl rfl (fm_dec dtX11_clause 147 rfl) ?_
    refine pv_getI (k := 0) (j := 5) (ci := 11) (pc := 282) pfl_X11_117 (by decide) rfl (by decide) (fm_dec dtX11_clause 148 rfl) ?_
    refine pv_if_eq (pc := 285) 291 (by decide) (fm_dec dtX11_clause 149 rfl) (fun _ => ?_) (fun hc285 => by exfalso; exact hc285 k277.2.1)
    refine pv_aloadn (pc := 291) (n := 0) 0 rfl rfl (fm_dec dtX11_clause 151 rfl) ?_
    refine pv_invV0 (k := 0) (d' := 1) (pc := 292) pcv_X11_123 (by decide) rfl (Nat.le_of_ble_eq_true rfl) (by decide) (fm_dec dtX11_clause 152 rfl) ?_
    refine r_blanks k277.1 k277.2.1 (fun M292 k292 => ?_)
    refine pv_then0 ?_
    refine pv_aloadn (pc := 295) (n := 0) 0 rfl rfl (fm_dec dtX11_clause 153 rfl) ?_
    refine pv_getI (k := 0) (j := 4) (ci := 11) (pc := 296) pfl_X11_110 (by decide) rfl (by decide) (fm_dec dtX11_clause 154 rfl) ?_
    refine pv_istoren (pc := 299) (n := 3) 3 rfl (by decide) rfl (fm_dec dtX11_clause 155 rfl) ?_
    dsimp only [List.set_cons_zero, List.set_cons_succ]
    refine pv_aloadn (pc := 300) (n := 0) 0 rfl rfl (fm_dec dtX11_clause 156 rfl) ?_
    refine pv_invV0 (k := 0) (d' := 3) (pc := 301) pcv_X11_170 (by decide) rfl (Nat.le_of_ble_eq_true rfl) (by decide) (fm_dec dtX11_clause 157 rfl) ?_
    refine c_lifeHere (l := D.1) k292.1 k292.2.1 (((hR.rd k277.2.2).rd k292.2.2).1) hD.1 (fun M301 v301 q301 w301 e301 hw301 k301 => ?_) (fun Mb kb ab eb hB => ?_)  
    · refine pv_then1 ?_
      rw [spNum_sk k277.1.2.2.2.1 k277.1.2.2.1] at e301
      refine pv_istore (pc := 304) (i := 4) (by decide) rfl (fm_dec dtX11_clause 158 rfl) ?_
      dsimp only [List.set_cons_zero, List.set_cons_succ]
      refine pv_aloadn (pc := 306) (n := 0) 0 rfl rfl (fm_dec dtX11_clause 159 rfl) ?_
      refine pv_getI (k := 0) (j := 5) (ci := 11) (pc := 307) pfl_X11_117 (by decide) rfl (by decide) (fm_dec dtX11_clause 160 rfl) ?_
      refine pv_if_ne (pc := 310) 325 (by decide) (fm_dec dtX11_clause 161 rfl) (fun hc310 => by exfalso; exact hc310 (by (repeat refine f0.row ?_ (by omega)); exact k301.2.1)) (fun _ => ?_)
      refine pv_iloadn (pc := 313) (n := 2) 2 rfl rfl (fm_dec dtX11_clause 162 rfl) ?_
      refine pv_iload (pc := 314) (i := 4) rfl (fm_dec dtX11_clause 163 rfl) ?_
      refine pv_icmp_ne (pc := 316) 325 (by decide) (fm_dec dtX11_clause 164 rfl) (fun hc316 => ?_) (fun hc316 => ?_)
      · have hab : ¬ v277 = v301 := fun h9 => hc316 (i32_ext (by rw [hw277, hw301, h9]))
        refine pv_aloadn (pc := 325) (n := 0) 0 rfl rfl (fm_dec dtX11_clause 169 rfl) ?_
        refine pv_getI (k := 0) (j := 5) (ci := 11) (pc := 326) pfl_X11_117 (by decide) rfl (by decide) (fm_dec dtX11_clause 170 rfl) ?_
        refine pv_if_ne (pc := 329) 403 (by decide) (fm_dec dtX11_clause 171 rfl) (fun hc329 => by exfalso; exact hc329 (by (repeat refine f0.row ?_ (by omega)); exact k301.2.1)) (fun _ => ?_)
        refine pv_aloadn (pc := 332) (n := 0) 0 rfl rfl (fm_dec dtX11_clause 172 rfl) ?_
        refine pv_getR (k := 0) (j := 13) (ci := 11) (pc := 333) 16 rfl (by decide) pfl_X11_28 (by decide) rfl (by decide) (fm_dec dtX11_clause 173 rfl) ?_
        refine pv_iloadn (pc := 336) (n := 2) 2 rfl rfl (fm_dec dtX11_clause 174 rfl) ?_
        refine pv_aald (k := 16) (n := 8) (r := (27 + v277)) (pc := 337) (by decide) (Or.inr (Or.inr rfl)) rfl (rw_readLife.inb hw277 hv8) (rw_readLife.at hw277 hv8) (rw_readLife.2.2.2 _ hv8).2.1 (fm_dec dtX11_clause 175 rfl) ?_
        refine pv_iconst (pc := 338) (v := 5) (by decide) (fm_dec dtX11_clause 176 rfl) ?_
        refine pv_iload (pc := 339) (i := 4) rfl (fm_dec dtX11_clause 177 rfl) ?_
        refine pv_iast (k := (27 + v277)) (n := 6) (pc := 341) (rw_readLife.2.2.2 _ hv8).2.2.1 (rw_readLife.2.2.2 _ hv8).2.2.2.1 (rw_readLife.2.2.2 _ hv8).2.2.2.2 (fm_inl (by decide)) (fm_dec dtX11_clause 178 rfl) ?_
        refine pv_goto (pc := 342) 403 (by decide) (fm_dec dtX11_clause 179 rfl) ?_
        refine pv_iloadn (pc := 403) (n := 1) 1 rfl rfl (fm_dec dtX11_clause 212 rfl) ?_
        refine pv_iconst (pc := 404) (v := 2) (by decide) (fm_dec dtX11_clause 213 rfl) ?_
        refine pv_icmp_ge (pc := 405) 429 (by decide) (fm_dec dtX11_clause 214 rfl) (fun _ => ?_) (fun hc405 => by exfalso; revert hc405; decide)
        refine pv_aloadn (pc := 429) (n := 0) 0 rfl rfl (fm_dec dtX11_clause 228 rfl) ?_
        refine pv_bipush (pc := 430) (v := 59) (by decide) (fm_dec dtX11_clause 229 rfl) ?_
        refine pv_invV1 (k := 0) (d' := 2) (pc := 432) pcv_X11_173 (by decide) rfl (Nat.le_of_ble_eq_true rfl) (by decide) (fm_dec dtX11_clause 230 rfl) ?_
        refine r_sign (tx := tx) (n := n) (p := q301) 59 ⟨by decide, by decide⟩ (by (repeat refine rS.row ?_ ⟨by omega, by omega⟩); exact k301.1) (by (repeat refine f0.row ?_ (by omega)); exact k301.2.1) (fun M432 q432 e432 k432 => ?_) (fun Mb kb ab eb hB => ?_)  
        · refine pv_then0 ?_
          exact pv_return (pc := 435) rfl (fm_dec dtX11_clause 231 rfl) (hok _ _ _ (by simp only [spBy, spBind, e277, e301, if_neg hab, e432]) ⟨k432.1, k432.2.1, rep_set (c := 5) (((hR.rd k277.2.2).rd k292.2.2).rd k301.2.2) hvl hD.1 k432.2.2 hw301, (((((hF.rd k277.2.2).rd k292.2.2).rd k301.2.2).row (by omega)).rd k432.2.2).2, (((((hF.rd k277.2.2).rd k292.2.2).rd k301.2.2).row (by omega)).rd k432.2.2).1⟩)
        · refine pv_then0 ?_
          have hB9 := clBad.of ((((hF.rd k277.2.2).rd k292.2.2).rd k301.2.2).row (by omega)).1 hB
          exact pv_return (pc := 435) rfl (fm_dec dtX11_clause 231 rfl) (hbad _ kb ab (by simp only [spBy, spBind, e277, e301, if_neg hab, eb]) (by (repeat refine clBad.row (by omega) ?_); exact hB9))
      · refine pv_aloadn (pc := 319) (n := 0) 0 rfl rfl (fm_dec dtX11_clause 165 rfl) ?_
        refine pv_iconst (pc := 320) (v := 2) (by decide) (fm_dec dtX11_clause 166 rfl) ?_
        refine pv_iloadn (pc := 321) (n := 3) 3 rfl rfl (fm_dec dtX11_clause 167 rfl) ?_
        refine pv_invV2 (k := 0) (d' := 0) (pc := 322) pcv_X11_130 (by decide) rfl (Nat.le_of_ble_eq_true rfl) (by decide) (fm_dec dtX11_clause 168 rfl) ?_
        refine c_wrongAt (fun _ => ?_) (fun h9 => absurd k301.2.1 h9) 
        refine pv_then0 ?_
        have hab : v277 = v301 := (by have h9 := hw277; rw [hc316, hw301] at h9; omega)
        have hB : rdBad M301 (fmI (fmI M301 0 5 2) 0 6 (M292.1 0 4)) tx n 2 (sk tx q277) := rdBad.at0 k301.1 (by decide) k292.1.2.1 (by decide)
        have hB9 := clBad.of (((hF.rd k277.2.2).rd k292.2.2).rd k301.2.2).1 hB
        obtain ⟨kb, hkb⟩ : ∃ kb : Nat, kb = 2 := ⟨2, rfl⟩
        obtain ⟨ab, hab2⟩ : ∃ ab : Nat, ab = sk tx q277 := ⟨_, rfl⟩
        rw [← hkb, ← hab2] at hB9
        refine pv_aloadn (pc := 325) (n := 0) 0 rfl rfl (fm_dec dtX11_clause 169 rfl) ?_
        refine pv_getI (k := 0) (j := 5) (ci := 11) (pc := 326) pfl_X11_117 (by decide) rfl (by decide) (fm_dec dtX11_clause 170 rfl) ?_
        refine pv_if_ne (pc := 329) 403 (by decide) (fm_dec dtX11_clause 171 rfl) (fun _ => ?_) (fun hc329 => by exfalso; exact (clBad.nz (M := M0) (tx := tx) (n := n) (k := kb) (a := ab) (by (repeat refine clBad.row (by omega) ?_); exact hB9)) hc329)
        refine pv_iloadn (pc := 403) (n := 1) 1 rfl rfl (fm_dec dtX11_clause 212 rfl) ?_
        refine pv_iconst (pc := 404) (v := 2) (by decide) (fm_dec dtX11_clause 213 rfl) ?_
        refine pv_icmp_ge (pc := 405) 429 (by decide) (fm_dec dtX11_clause 214 rfl) (fun _ => ?_) (fun hc405 => by exfalso; revert hc405; decide)
        refine pv_aloadn (pc := 429) (n := 0) 0 rfl rfl (fm_dec dtX11_clause 228 rfl) ?_
        refine pv_bipush (pc := 430) (v := 59) (by decide) (fm_dec dtX11_clause 229 rfl) ?_
        refine pv_invV1 (k := 0) (d' := 2) (pc := 432) pcv_X11_173 (by decide) rfl (Nat.le_of_ble_eq_true rfl) (by decide) (fm_dec dtX11_clause 230 rfl) ?_
        refine c_sign1 (clBad.nz (M := M0) (tx := tx) (n := n) (k := kb) (a := ab) (by (repeat refine clBad.row (by omega) ?_); exact hB9)) ?_
        refine pv_then0 ?_
        exact pv_return (pc := 435) rfl (fm_dec dtX11_clause 231 rfl) (hbad _ kb ab (by simp only [spBy, spBind, e277, e301, if_pos hab, hkb, hab2]) (by (repeat refine clBad.row (by omega) ?_); exact hB9))
    · refine pv_then1 ?_
      rw [spNum_sk k277.1.2.2.2.1 k277.1.2.2.1] at eb
      have hB9 := clBad.of ((hF.rd k277.2.2).rd k292.2.2).1 hB
      refine pv_istore (pc := 304) (i := 4) (by decide) rfl (fm_dec dtX11_clause 158 rfl) ?_
      dsimp only [List.set_cons_zero, List.set_cons_succ]
      refine pv_aloadn (pc := 306) (n := 0) 0 rfl rfl (fm_dec dtX11_clause 159 rfl) ?_
      refine pv_getI (k := 0) (j := 5) (ci := 11) (pc := 307) pfl_X11_117 (by decide) rfl (by decide) (fm_dec dtX11_clause 160 rfl) ?_
      refine pv_if_ne (pc := 310) 325 (by decide) (fm_dec dtX11_clause 161 rfl) (fun _ => ?_) (fun hc310 => by exfalso; exact (clBad.nz (M := M0) (tx := tx) (n := n) (k := kb) (a := ab) (by (repeat refine clBad.row (by omega) ?_); exact hB9)) hc310)
      refine pv_aloadn (pc := 325) (n := 0) 0 rfl rfl (fm_dec dtX11_clause 169 rfl) ?_
      refine pv_getI (k := 0) (j := 5) (ci := 11) (pc := 326) pfl_X11_117 (by decide) rfl (by decide) (fm_dec dtX11_clause 170 rfl) ?_
      refine pv_if_ne (pc := 329) 403 (by decide) (fm_dec dtX11_clause 171 rfl) (fun _ => ?_) (fun hc329 => by exfalso; exact (clBad.nz (M := M0) (tx := tx) (n := n) (k := kb) (a := ab) (by (repeat refine clBad.row (by omega) ?_); exact hB9)) hc329)
      refine pv_iloadn (pc := 403) (n := 1) 1 rfl rfl (fm_dec dtX11_clause 212 rfl) ?_
      refine pv_iconst (pc := 404) (v := 2) (by decide) (fm_dec dtX11_clause 213 rfl) ?_
      refine pv_icmp_ge (pc := 405) 429 (by decide) (fm_dec dtX11_clause 214 rfl) (fun _ => ?_) (fun hc405 => by exfalso; revert hc405; decide)
      refine pv_aloadn (pc := 429) (n := 0) 0 rfl rfl (fm_dec dtX11_clause 228 rfl) ?_
      refine pv_bipush (pc := 430) (v := 59) (by decide) (fm_dec dtX11_clause 229 rfl) ?_
      refine pv_invV1 (k := 0) (d' := 2) (pc := 432) pcv_X11_173 (by decide) rfl (Nat.le_of_ble_eq_true rfl) (by decide) (fm_dec dtX11_clause 230 rfl) ?_
      refine c_sign1 (clBad.nz (M := M0) (tx := tx) (n := n) (k := kb) (a := ab) (by (repeat refine clBad.row (by omega) ?_); exact hB9)) ?_
      refine pv_then0 ?_
      exact pv_return (pc := 435) rfl (fm_dec dtX11_clause 231 rfl) (hbad _ kb ab (by simp only [spBy, spBind, e277, eb]) (by (repeat refine clBad.row (by omega) ?_); exact hB9))
  · refine pv_then1 ?_
    have hB9 := clBad.of (hF).1 hB
    refine pv_istoren (pc := 280) (n := 2) 2 rfl (by decide) rfl (fm_dec dtX11_clause 146 rfl) ?_
    dsimp only [List.set_cons_zero, List.set_cons_succ]
    refine pv_aloadn (pc := 281) (n := 0) 0 rfl rfl (fm_dec dtX11_clause 147 rfl) ?_
    refine pv_getI (k := 0) (j := 5) (ci := 11) (pc := 282) pfl_X11_117 (by decide) rfl (by decide) (fm_dec dtX11_clause 148 rfl) ?_
    refine pv_if_eq (pc := 285) 291 (by decide) (fm_dec dtX11_clause 149 rfl) (fun hc285 => by exfalso; exact (clBad.nz (M := M0) (tx := tx) (n := n) (k := kb) (a := ab) (by (repeat refine clBad.row (by omega) ?_); exact hB9)) hc285) (fun _ => ?_)
    refine pv_goto (pc := 288) 403 (by decide) (fm_dec dtX11_clause 150 rfl) ?_
    refine pv_iloadn (pc := 403) (n := 1) 1 rfl rfl (fm_dec dtX11_clause 212 rfl) ?_
    refine pv_iconst (pc := 404) (v := 2) (by decide) (fm_dec dtX11_clause 213 rfl) ?_
    refine pv_icmp_ge (pc := 405) 429 (by decide) (fm_dec dtX11_clause 214 rfl) (fun _ => ?_) (fun hc405 => by exfalso; revert hc405; decide)
    refine pv_aloadn (pc := 429) (n := 0) 0 rfl rfl (fm_dec dtX11_clause 228 rfl) ?_
    refine pv_bipush (pc := 430) (v := 59) (by decide) (fm_dec dtX11_clause 229 rfl) ?_
    refine pv_invV1 (k := 0) (d' := 2) (pc := 432) pcv_X11_173 (by decide) rfl (Nat.le_of_ble_eq_true rfl) (by decide) (fm_dec dtX11_clause 230 rfl) ?_
    refine c_sign1 (clBad.nz (M := M0) (tx := tx) (n := n) (k := kb) (a := ab) (by (repeat refine clBad.row (by omega) ?_); exact hB9)) ?_
    refine pv_then0 ?_
    exact pv_return (pc := 435) rfl (fm_dec dtX11_clause 231 rfl) (hbad _ kb ab (by simp only [spBy, spBind, eb]) (by (repeat refine clBad.row (by omega) ?_); exact hB9))
