-- P 18yf
section
-- WORKS DONE, on both sides
theorem spSt_z {tx : tX} {l : Nat} : ∀ (f md o b p : Nat) (ss : tS) (q : Nat), spSt tx l f md o b p = .inr (ss, q) → ∀ s ∈ ss, s.1 = 3 → s.2.1 = 0 := by
  intro f
  induction f with
  | zero => intro md o b p ss q h; cases md <;> cases h
  | succ f ih =>
    intro md o b p ss q h
    cases md with
    | zero =>
      have h : spOneS tx l (fun q => spSt tx l f 1 (o + 1) (b + 1) q) o b p = .inr (ss, q) := h
      unfold spOneS at h
      split at h
      · cases h
      · rename_i k hk
        split at h
        · split at h
          · cases h
          · unfold spAg at h
            obtain ⟨v, q1, e1, h⟩ := spBind_ok h
            obtain ⟨u2, q2, e2, h⟩ := spBind_ok h
            obtain ⟨s3, q3, e3, h⟩ := spBind_ok h
            obtain ⟨u4, q4, e4, h⟩ := spBind_ok h
            obtain ⟨u5, q5, e5, h⟩ := spBind_ok h
            cases h
            intro s hs h3
            rcases List.mem_cons.mp hs with rfl | hs
            · exact absurd (show (4 : Nat) = 3 from h3) (by decide)
            · exact ih _ _ _ _ _ _ e3 s hs h3
        · split at h
          · unfold spWk at h
            obtain ⟨u2, q2, e2, h⟩ := spBind_ok h
            cases h
            intro s hs h3
            rcases List.mem_cons.mp hs with rfl | hs
            · rfl
            · cases hs
          · rename_i h4 hn3
            unfold spSi at h
            obtain ⟨v, q1, e1, h⟩ := spBind_ok h
            obtain ⟨u2, q2, e2, h⟩ := spBind_ok h
            cases h
            intro s hs h3
            rcases List.mem_cons.mp hs with rfl | hs
            · exact absurd h3 hn3
            · cases hs
    | succ md =>
      have h : (if tx p = 93 then .inr ([], p) else spBind (spSt tx l f 0 o b p) fun ss q => spBind (spSt tx l f 1 o (b + ss.length) (sk tx q)) fun ts q => .inr (ss ++ ts, q)) = (.inr (ss, q) : tR tS) := h
      split at h
      · cases h
        intro s hs
        cases hs
      · obtain ⟨s1, q1, e1, h⟩ := spBind_ok h
        obtain ⟨s2, q2, e2, h⟩ := spBind_ok h
        cases h
        intro s hs h3
        rcases List.mem_append.mp hs with hs | hs
        · exact ih _ _ _ _ _ _ e1 s hs h3
        · exact ih _ _ _ _ _ _ e2 s hs h3
theorem wkL_z {tx : tX} {n l : Nat} : ∀ (f b p : Nat) (ss : tS), wkL tx n l f b p = .inr ss → ∀ s ∈ ss, s.1 = 3 → s.2.1 = 0 := by
  intro f
  induction f with
  | zero => intro b p ss h; cases h
  | succ f ih =>
    intro b p ss h
    simp only [wkL] at h
    split at h
    · cases h
      intro s hs
      cases hs
    · split at h
      · cases h
      · rename_i s1 q1 e1
        split at h
        · cases h
        · rename_i s2 e2
          cases h
          intro s hs h3
          rcases List.mem_append.mp hs with hs | hs
          · exact spSt_z _ _ _ _ _ _ _ e1 s hs h3
          · exact ih _ _ _ e2 s hs h3
theorem spWork_nu {tx : tX} {n : Nat} {D : dD} {ss : tS} (ht : tOk tx n) (hn : n ≤ 150) (hD : D.1 ≤ 8) (h : spWork tx n D.1 = .inr ss) : nuO D ss ∧ ss.length ≤ 75 := by
  have hs0 : sk tx 0 ≤ n := sp_le tB_1 ht (Nat.zero_le _)
  have g := wkL_ok ht 700 0 (sk tx 0) ss hs0 h
  refine ⟨⟨by omega, fun s hs => ?_⟩, by omega⟩
  obtain ⟨i, hi, e⟩ := List.getElem_of_mem hs
  have g1 := g.1 i s (by rw [List.getElem?_eq_getElem hi, e])
  refine ⟨g1.2.1, ?_⟩
  by_cases h3 : s.1 < 3
  · have := g1.2.1 h3
    omega
  · by_cases h4 : s.1 = 4
    · exact g1.2.2.1 h4
    · have h0 := wkL_z 700 0 (sk tx 0) ss h s hs (by have := g1.1; omega)
      omega
/-- what a work leaves on the first side: w works were there -/
def wkK (w : Nat) (M M' : fmM) : Prop := (∀ k, (2 ≤ k ∧ k ≤ 27 ∧ k ≠ 26) ∨ (49 ≤ k ∧ k < 190 ∧ k ≠ 50 + w ∧ k ≠ 66 + w) → ∀ j, M'.1 k j = M.1 k j ∧ M'.2 k j = M.2 k j) ∧ M'.1 0 13 = M.1 0 13 ∧ smS (50 + w) (66 + w) 47 48 M M' ∧ M'.1 46 2 = M.1 46 2 + 1
theorem rd_k {M : fmM} {nn : Int32} {k : Nat} (h1 : k ≠ 1) (h2 : k ≠ 28) : (rdM (opM M nn)).1 k = M.1 k := by
  unfold rdM opM
  rw [fmI_k _ _ h2, fmI_k _ _ h2, fmI_k _ _ h2, fmI_k _ _ h2, fmI_k _ _ h1, fmI_k _ _ h1, fmI_k _ _ h1, fmI_k _ _ h1, fmI_k _ _ h1]
theorem wo_38 {M M' : fmM} {nn : Int32} (h : wFr 0 (rdM (opM M nn)) M') : ∀ k, k ≠ 1 → ¬ (28 ≤ k ∧ k ≤ 31) → ∀ j, M'.1 k j = M.1 k j ∧ M'.2 k j = M.2 k j := fun k h1 h2 j => ⟨by rw [h.1 k j h1 (by omega) (by omega), rd_k h1 (by omega)], h.2.1 k j h1 h2⟩
theorem wo_K {M M38 M59 M86 : fmM} {nn x y : Int32} {w : Nat} (hw : w < 16) (f38 : wFr 0 (rdM (opM M nn)) M38) (c59 : cpR (50 + w) (66 + w) 47 48 M38 M59) (f86 : pFr (fmI M59 46 2 (M38.1 46 2 + 1)) M86) : wkK w M (fmI (fmI M86 0 14 x) 34 5 y) := by
  have e38 := wo_38 f38
  have e86 : ∀ k, k ≠ 0 → k ≠ 26 → k ≠ 28 → k ≠ 34 → k ≠ 46 → k ≠ 47 → k ≠ 48 → ∀ j, (fmI (fmI M86 0 14 x) 34 5 y).1 k j = M59.1 k j ∧ (fmI (fmI M86 0 14 x) 34 5 y).2 k j = M59.2 k j := fun k a b c d e f g j => ⟨by rw [fmI_k _ _ d, fmI_k _ _ a, f86.1 k j b c f g, fmI_k _ _ e], f86.2 k j f⟩
  refine ⟨fun k hk j => ?_, ?_, ?_, ?_⟩
  · have h1 := e86 k (by omega) (by omega) (by omega) (by omega) (by omega) (by omega) (by omega) j
    have h2 := e38 k (by omega) (by omega) j
    exact ⟨h1.1.trans ((c59.2.1 k j (by omega) (by omega)).trans h2.1), h1.2.trans ((c59.2.2 k j (by omega)).trans h2.2)⟩
  · rw [fmI_k _ _ (by decide), fmI_j _ _ (by decide), f86.1 0 13 (by decide) (by decide) (by decide) (by decide), fmI_k _ _ (by decide), c59.2.1 0 13 (by omega) (by omega)]
    exact (e38 0 (by decide) (by decide) 13).1
  · exact (c59.1.src (fun j => (e38 47 (by decide) (by decide) j).1) (fun j => (e38 48 (by decide) (by decide) j).1) (e38 47 (by decide) (by decide) 6).2).fr (fun j => (e86 _ (by omega) (by omega) (by omega) (by omega) (by omega) (by omega) (by omega) j).1) (fun j => (e86 _ (by omega) (by omega) (by omega) (by omega) (by omega) (by omega) (by omega) j).1) (e86 _ (by omega) (by omega) (by omega) (by omega) (by omega) (by omega) (by omega) 6).2
  · rw [fmI_k _ _ (by decide), fmI_k _ _ (by decide), f86.1 46 2 (by decide) (by decide) (by decide) (by decide), fmI_s, (e38 46 (by decide) (by decide) 2).1]
/-- told, law and state, ahead of the steps -/
theorem wo_A {M M38 M59 : fmM} {D : dD} {cs : tC} {S : aS} {nn : Int32} {w : Nat} (hX : xdw 3 M D) (hL : lwX M cs) (hs : xst M D S) (ho : stO D S) (f38 : wFr 0 (rdM (opM M nn)) M38) (c59 : cpR (50 + w) (66 + w) 47 48 M38 M59) : xAll (fmI M59 46 2 (M38.1 46 2 + 1)) D cs (S, 0, 0, 0) := by
  have e38 := wo_38 f38
  have e59 : ∀ k, k < 49 → k ≠ 1 → k ≠ 46 → ¬ (28 ≤ k ∧ k ≤ 31) → ∀ j, (fmI M59 46 2 (M38.1 46 2 + 1)).1 k j = M.1 k j ∧ (fmI M59 46 2 (M38.1 46 2 + 1)).2 k j = M.2 k j := fun k a b c d j => ⟨by rw [fmI_k _ _ c, c59.2.1 k j (by omega) (by omega)]; exact (e38 k b d j).1, (c59.2.2 k j (by omega)).trans (e38 k b d j).2⟩
  have e28 : ∀ j, j = 4 ∨ j = 5 ∨ j = 6 → (fmI M59 46 2 (M38.1 46 2 + 1)).1 28 j = 0 := fun j hj => by
    rw [fmI_k _ _ (by decide), c59.2.1 28 j (by omega) (by omega), f38.1 28 j (by decide) (by omega) (by omega)]
    rcases hj with rfl | rfl | rfl <;> rfl
  refine ⟨hX.of (fun k j a b => (e59 k (by omega) (by omega) (by omega) (by omega) j).1), hL.f (e59 23 (by decide) (by decide) (by decide) (by decide) 3).1 (fun i => (e59 24 (by decide) (by decide) (by decide) (by decide) i).1), hs.of (fun k j a => (e59 k (by omega) (by omega) (by omega) (by omega) j).1) (e59 47 (by decide) (by decide) (by decide) (by decide) 6).2, ho, by rw [e28 4 (Or.inl rfl)]; exact z_i, by rw [e28 5 (Or.inr (Or.inl rfl))]; exact z_i, by rw [e28 6 (Or.inr (Or.inr rfl))]; exact z_i, Nat.le_refl _, Nat.zero_le _⟩
/-- a work, all of it -/
def goW (D : dD) (cs : tC) (ss : tS) (S : aS) : gR := goL D cs 201 0 ss (S, 0, 0, 0)
theorem seg_0 {ss : tS} : seg ss 0 ss := fun i hi => by rw [Nat.zero_add]
set_option maxRecDepth 20000 in
theorem c_xwoS {M : fmM} {Q : fmR → fmM → Prop} {T : Nat → tX} {nn : Int32} {D : dD} {cs : tC} {S : aS} {w : Nat} (hI : scInv Tx invX M) (hT : txF M T) (hD : dOk D) (hX : xdw 3 M D) (hL : lwX M cs) (hs : xst M D S) (ho : stO D S) (hw : (M.1 46 2).toInt = (w : Int)) (h16 : w ≤ 16) (hrf : ¬ txP nn 150 (M.1 1 1).toInt → Q (.inr fmIAE) (fmI M 0 16 (M.1 0 16 + 1))) (hful : txP nn 150 (M.1 1 1).toInt → w = 16 → Q (.inl (some (.int (-20)))) (opM M nn)) (hbad : ∀ (n k a : Nat) (r : Int32) (M' : fmM), nn.toInt = (n : Int) → txP nn 150 (M.1 1 1).toInt → w < 16 → spWork (T n) n D.1 = .inl (k, a) → r.toInt = (k : Int) - 10 → wFr 0 (rdM (opM M nn)) M' → Q (.inl (some (.int r))) M') (hok : ∀ (n : Nat) (ss : tS) (r : Int32) (M' : fmM), nn.toInt = (n : Int) → txP nn 150 (M.1 1 1).toInt → w < 16 → spWork (T n) n D.1 = .inr ss → r.toInt = ((goW D cs ss S).2.2.1 : Int) → xst M' D (goW D cs ss S).1 → stO D (goW D cs ss S).1 → (M'.1 0 14).toInt = ((goW D cs ss S).2.2.2 : Int) → wkK w M M' → Q (.inl (some (.int r))) M') : pvGood Tx 214 qX10_work [.ref 0, .int nn] M Q := by
  refine pvGood_of (Nat.le_of_ble_eq_true rfl) ?_
  show pvEv Tx 214 qX10_work 0 [some (.ref 0), some (.int nn)] [] M Q
  refine pv_aloadn (pc := 0) (n := 0) 0 rfl rfl (fm_dec dtX10_work 0 rfl) ?_
  refine pv_iloadn (pc := 1) (n := 1) 1 rfl rfl (fm_dec dtX10_work 1 rfl) ?_
  refine pv_sipush (pc := 2) (v := 150) (by decide) (fm_dec dtX10_work 2 rfl) ?_
  refine pv_invV2 (k := 0) (d' := 1) (pc := 5) pcv_X10_108 (by decide) rfl (Nat.le_of_ble_eq_true rfl) (by decide) (fm_dec dtX10_work 3 rfl) ?_
  refine c_openT (fun h5 => ?_) (fun h5 => ?_)
  · refine pv_then0 ?_
    have h56 : nn.toInt ≤ 150 := h5.2.1
    obtain ⟨n, hn⟩ : ∃ n : Nat, nn.toInt = (n : Int) := ⟨nn.toInt.toNat, by have := h5.1; omega⟩
    have hn9 : n ≤ 150 := (by omega)
    have hI5 := inv_open (n := nn) hI h5.1 (by omega)
    have hT9 := hT n (by have := h5.2.2; omega)
    have hS := op_S hn hT9.1 hT9.2
    have hf5 : (opM M nn).1 1 4 = 0 := rfl
    have z16 : (16 : Int32).toInt = 16 := (by decide)
    have hw5 : ((opM M nn).1 46 2).toInt = (w : Int) := hw
    refine pv_aloadn (pc := 8) (n := 0) 0 rfl rfl (fm_dec dtX10_work 4 rfl) ?_
    refine pv_getR (k := 0) (j := 9) (ci := 10) (pc := 9) 46 rfl (by decide) pfl_X10_75 (by decide) rfl (by decide) (fm_dec dtX10_work 5 rfl) ?_
    refine pv_getI (k := 46) (j := 2) (ci := 5) (pc := 12) pfl_X10_126 (by decide) rfl (by decide) (fm_dec dtX10_work 6 rfl) ?_
    refine pv_bipush (pc := 15) (v := 16) (by decide) (fm_dec dtX10_work 7 rfl) ?_
    refine pv_icmp_lt (pc := 17) 23 (by decide) (fm_dec dtX10_work 8 rfl) (fun hc17 => ?_) (fun hc17 => ?_)
    · have hlt : w < 16 := (by have h9 := hc17; rw [sc_lt] at h9; omega)
      refine pv_aloadn (pc := 23) (n := 0) 0 rfl rfl (fm_dec dtX10_work 11 rfl) ?_
      refine pv_getR (k := 0) (j := 5) (ci := 10) (pc := 24) 28 rfl (by decide) pfl_X10_43 (by decide) rfl (by decide) (fm_dec dtX10_work 12 rfl) ?_
      refine pv_aloadn (pc := 27) (n := 0) 0 rfl rfl (fm_dec dtX10_work 13 rfl) ?_
      refine pv_getR (k := 0) (j := 0) (ci := 10) (pc := 28) 1 rfl (by decide) pfl_X10_12 (by decide) rfl (by decide) (fm_dec dtX10_work 14 rfl) ?_
      refine pv_aloadn (pc := 31) (n := 0) 0 rfl rfl (fm_dec dtX10_work 15 rfl) ?_
      refine pv_getR (k := 0) (j := 1) (ci := 10) (pc := 32) 3 rfl (by decide) pfl_X10_19 (by decide) rfl (by decide) (fm_dec dtX10_work 16 rfl) ?_
      refine pv_getI (k := 3) (j := 9) (ci := 8) (pc := 35) pfl_X10_138 (by decide) rfl (by decide) (fm_dec dtX10_work 17 rfl) ?_
      refine pv_invV2 (k := 28) (d' := 27) (pc := 38) pcv_X10_142 (by decide) rfl (Nat.le_of_ble_eq_true rfl) (by decide) (fm_dec dtX10_work 18 rfl) ?_
      refine c_wread (M := opM M nn) (l := D.1) hX.1.1 hD.1 hS hf5 hI5 hn9 (fun M38 ss q38 e38 k38 => ?_) (fun M38 kb ab e38 b38 => ?_)  
      · refine pv_then1 ?_
        refine pv_if_ne (pc := 41) 55 (by decide) (fm_dec dtX10_work 19 rfl) (fun _ => ?_) (fun hc41 => by exfalso; revert hc41; decide)
        have hw38 : (M38.1 46 2).toInt = (w : Int) := (by rw [(wo_38 k38.2.2.2.2.2 46 (by decide) (by decide) 2).1]; exact hw)
        have hN := spWork_nu hT9.1 hn9 hD.1 e38
        obtain ⟨g9, hg9⟩ := spWork_wn e38
        refine pv_aloadn (pc := 55) (n := 0) 0 rfl rfl (fm_dec dtX10_work 26 rfl) ?_
        refine pv_getR (k := 0) (j := 9) (ci := 10) (pc := 56) 46 rfl (by decide) pfl_X10_75 (by decide) rfl (by decide) (fm_dec dtX10_work 27 rfl) ?_
        refine pv_invV0 (k := 46) (d' := 1) (pc := 59) pcv_X10_145 (by decide) rfl (Nat.le_of_ble_eq_true rfl) (by decide) (fm_dec dtX10_work 28 rfl) ?_
        refine c_keepS hw38 hlt (fun M59 c59 => ?_) 
        refine pv_then0 ?_
        have hA9 := wo_A hX hL hs ho k38.2.2.2.2.2 c59
        have hW9 : wRep (fmI M59 46 2 (M38.1 46 2 + 1)) 0 ss := (fun i c hi => by rw [fmI_k _ _ (by decide), fmI_k _ _ (by decide), fmI_k _ _ (by decide), c59.2.1 29 _ (by omega) (by omega), c59.2.1 30 _ (by omega) (by omega), c59.2.1 31 _ (by omega) (by omega)]; exact k38.2.2.2.2.1 i c hi)
        have hz9 : ((fmI M59 46 2 (M38.1 46 2 + 1)).1 28 3).toInt = ((0 + ss.length : Nat) : Int) := (by rw [fmI_k _ _ (by decide), c59.2.1 28 3 (by omega) (by omega)]; exact k38.2.2.2.1)
        refine pv_aloadn (pc := 62) (n := 0) 0 rfl rfl (fm_dec dtX10_work 29 rfl) ?_
        refine pv_getR (k := 0) (j := 5) (ci := 10) (pc := 63) 28 rfl (by decide) pfl_X10_43 (by decide) rfl (by decide) (fm_dec dtX10_work 30 rfl) ?_
        refine pv_aloadn (pc := 66) (n := 0) 0 rfl rfl (fm_dec dtX10_work 31 rfl) ?_
        refine pv_getR (k := 0) (j := 6) (ci := 10) (pc := 67) 32 rfl (by decide) pfl_X10_52 (by decide) rfl (by decide) (fm_dec dtX10_work 32 rfl) ?_
        refine pv_aloadn (pc := 70) (n := 0) 0 rfl rfl (fm_dec dtX10_work 33 rfl) ?_
        refine pv_getR (k := 0) (j := 9) (ci := 10) (pc := 71) 46 rfl (by decide) pfl_X10_75 (by decide) rfl (by decide) (fm_dec dtX10_work 34 rfl) ?_
        refine pv_getR (k := 46) (j := 0) (ci := 5) (pc := 74) 47 rfl (by decide) pfl_X10_90 (by decide) rfl (by decide) (fm_dec dtX10_work 35 rfl) ?_
        refine pv_iconst (pc := 77) (v := 0) (by decide) (fm_dec dtX10_work 36 rfl) ?_
        refine pv_aloadn (pc := 78) (n := 0) 0 rfl rfl (fm_dec dtX10_work 37 rfl) ?_
        refine pv_getR (k := 0) (j := 5) (ci := 10) (pc := 79) 28 rfl (by decide) pfl_X10_43 (by decide) rfl (by decide) (fm_dec dtX10_work 38 rfl) ?_
        refine pv_getI (k := 28) (j := 3) (ci := 9) (pc := 82) pfl_X10_148 (by decide) rfl (by decide) (fm_dec dtX10_work 39 rfl) ?_
        refine pv_iconst (pc := 85) (v := 0) (by decide) (fm_dec dtX10_work 40 rfl) ?_
        refine pv_invV5 (k := 28) (d' := (12 + 201)) (pc := 86) pcv_X10_151 (by decide) rfl (Nat.le_of_ble_eq_true rfl) (by decide) (fm_dec dtX10_work 41 rfl) ?_
        refine (xp_E (cs := cs) hD hN.1 201).go (a := 0) (o := 0) hA9 hW9 seg_0 (by omega) hg9 (by decide) (by decide) hz9 (by decide) (by show 200 - 0 < 201; decide) (fun M86 h86 f86 => ?_) 
        refine pv_then0 ?_
        refine pv_aloadn (pc := 89) (n := 0) 0 rfl rfl (fm_dec dtX10_work 42 rfl) ?_
        refine pv_aloadn (pc := 90) (n := 0) 0 rfl rfl (fm_dec dtX10_work 43 rfl) ?_
        refine pv_getR (k := 0) (j := 5) (ci := 10) (pc := 91) 28 rfl (by decide) pfl_X10_43 (by decide) rfl (by decide) (fm_dec dtX10_work 44 rfl) ?_
        refine pv_getI (k := 28) (j := 6) (ci := 9) (pc := 94) pfl_X10_155 (by decide) rfl (by decide) (fm_dec dtX10_work 45 rfl) ?_
        refine pv_putI (k := 0) (j := 14) (ci := 10) (pc := 97) pfl_X10_132 (by decide) rfl (by decide) (fm_dec dtX10_work 46 rfl) ?_
        refine pv_aloadn (pc := 100) (n := 0) 0 rfl rfl (fm_dec dtX10_work 47 rfl) ?_
        refine pv_getR (k := 0) (j := 7) (ci := 10) (pc := 101) 34 rfl (by decide) pfl_X10_61 (by decide) rfl (by decide) (fm_dec dtX10_work 48 rfl) ?_
        refine pv_invV0 (k := 34) (d' := 0) (pc := 104) pcv_X10_135 (by decide) rfl (Nat.le_of_ble_eq_true rfl) (by decide) (fm_dec dtX10_work 49 rfl) ?_
        refine c_fgt ?_
        refine pv_then0 ?_
        refine pv_aloadn (pc := 107) (n := 0) 0 rfl rfl (fm_dec dtX10_work 50 rfl) ?_
        refine pv_getR (k := 0) (j := 5) (ci := 10) (pc := 108) 28 rfl (by decide) pfl_X10_43 (by decide) rfl (by decide) (fm_dec dtX10_work 51 rfl) ?_
        refine pv_getI (k := 28) (j := 5) (ci := 9) (pc := 111) pfl_X10_158 (by decide) rfl (by decide) (fm_dec dtX10_work 52 rfl) ?_
        exact pv_ireturn (pc := 114) rfl (fm_dec dtX10_work 53 rfl) (hok n ss _ _ hn h5 hlt e38 h86.2.2.2.2.2.1 (h86.2.2.1.of (fun k j a => by rw [fmI_k _ _ (by omega), fmI_k _ _ (by omega)]) rfl) h86.2.2.2.1 (by rw [fmI_k _ _ (by decide), fmI_s]; exact h86.2.2.2.2.2.2.1) (wo_K hlt k38.2.2.2.2.2 c59 f86))
      · refine pv_then1 ?_
        refine pv_if_ne (pc := 41) 55 (by decide) (fm_dec dtX10_work 19 rfl) (fun hc41 => by exfalso; revert hc41; decide) (fun _ => ?_)
        refine pv_aloadn (pc := 44) (n := 0) 0 rfl rfl (fm_dec dtX10_work 20 rfl) ?_
        refine pv_getR (k := 0) (j := 0) (ci := 10) (pc := 45) 1 rfl (by decide) pfl_X10_12 (by decide) rfl (by decide) (fm_dec dtX10_work 21 rfl) ?_
        refine pv_getI (k := 1) (j := 4) (ci := 7) (pc := 48) pfl_X10_116 (by decide) rfl (by decide) (fm_dec dtX10_work 22 rfl) ?_
        refine pv_bipush (pc := 51) (v := 10) (by decide) (fm_dec dtX10_work 23 rfl) ?_
        refine pv_isub (pc := 53) (fm_dec dtX10_work 24 rfl) ?_
        exact pv_ireturn (pc := 54) rfl (fm_dec dtX10_work 25 rfl) (hbad n kb ab _ M38 hn h5 hlt e38 (law_r b38.1 (by have h9 : (M38.1 1 4).toInt ≤ 3 := (b38.2.2.2.1.1 1 4 (by decide)).2; have h8 := b38.1; omega)) b38.2.2.2.2)
    · refine pv_bipush (pc := 20) (v := (-20)) (by decide) (fm_dec dtX10_work 9 rfl) ?_
      exact pv_ireturn (pc := 22) rfl (fm_dec dtX10_work 10 rfl) (hful h5 (by have h9 := hc17; rw [sc_lt] at h9; omega))
  · refine pv_thenX ?_
    exact hrf h5
set_option maxRecDepth 20000 in
theorem wk_o1S {Q : fmR → fmM → Prop} {M : fmM} {nn : Int32} (hf : ¬ M.1 0 5 = 0) (hq : pvEv Tm 214 qX11_work 101 [some (.ref 0), some (.int nn)] [] M Q) : pvEv Tm 214 qX11_work 72 [some (.ref 0), some (.int nn)] [] M Q := by
  refine pv_aloadn (pc := 72) (n := 0) 0 rfl rfl (fm_dec dtX11_work 40 rfl) ?_
  refine pv_getI (k := 0) (j := 5) (ci := 11) (pc := 73) pfl_X11_117 (by decide) rfl (by decide) (fm_dec dtX11_work 41 rfl) ?_
  refine pv_if_ne (pc := 76) 101 (by decide) (fm_dec dtX11_work 42 rfl) (fun _ => ?_) (fun hc76 => by exfalso; exact hf hc76)
  exact hq
set_option maxRecDepth 20000 in
theorem wk_loopS {tx : tX} {n l : Nat} {nn : Int32} {Q : fmR → fmM → Prop} : ∀ (f b p : Nat) (M : fmM), srPre M tx n p 0 b l → (∀ a, ¬ wkL tx n l f b p = .inl (9, a)) → (∀ (M' : fmM) (ss : tS) (q : Nat), wkL tx n l f b p = .inr ss → srOk M M' tx n q b ss → pvEv Tm 214 qX11_work 101 [some (.ref 0), some (.int nn)] [] M' Q) → (∀ (M' : fmM) (k a : Nat), wkL tx n l f b p = .inl (k, a) → srBad M M' tx n k a b → pvEv Tm 214 qX11_work 101 [some (.ref 0), some (.int nn)] [] M' Q) → pvEv Tm 214 qX11_work 72 [some (.ref 0), some (.int nn)] [] M Q := by
  intro f
  induction f with
  | zero => intro b p M hP hne hok hbad; exact absurd rfl (hne 0)
  | succ f ih =>
    intro b p M hP hne hok hbad
    refine pv_aloadn (pc := 72) (n := 0) 0 rfl rfl (fm_dec dtX11_work 40 rfl) ?_
    refine pv_getI (k := 0) (j := 5) (ci := 11) (pc := 73) pfl_X11_117 (by decide) rfl (by decide) (fm_dec dtX11_work 41 rfl) ?_
    refine pv_if_ne (pc := 76) 101 (by decide) (fm_dec dtX11_work 42 rfl) (fun hc76 => by exfalso; exact hc76 hP.2.1) (fun _ => ?_)
    refine pv_aloadn (pc := 79) (n := 0) 0 rfl rfl (fm_dec dtX11_work 43 rfl) ?_
    refine pv_getI (k := 0) (j := 4) (ci := 11) (pc := 80) pfl_X11_110 (by decide) rfl (by decide) (fm_dec dtX11_work 44 rfl) ?_
    refine pv_aloadn (pc := 83) (n := 0) 0 rfl rfl (fm_dec dtX11_work 45 rfl) ?_
    refine pv_getI (k := 0) (j := 2) (ci := 11) (pc := 84) pfl_X11_107 (by decide) rfl (by decide) (fm_dec dtX11_work 46 rfl) ?_
    refine pv_icmp_ge (pc := 87) 101 (by decide) (fm_dec dtX11_work 47 rfl) (fun hc87 => ?_) (fun hc87 => ?_)
    · exact hok M [] p (wkL_0 (by rw [sc_le, hP.1.1, hP.1.2.1] at hc87; omega)) (srOk.nil hP)
    · have hpn : ¬ n ≤ p := (by rw [sc_le, hP.1.1, hP.1.2.1] at hc87; omega)
      refine pv_aloadn (pc := 90) (n := 0) 0 rfl rfl (fm_dec dtX11_work 48 rfl) ?_
      refine pv_invV0 (k := 0) (d' := (5 + (6 - 0))) (pc := 91) pcv_X11_253 (by decide) rfl (Nat.le_of_ble_eq_true rfl) (by omega) (fm_dec dtX11_work 49 rfl) ?_
      refine (rs_all 400).1 0 b p M _ hP (fun h9 => hne 0 (wkL_1 hpn h9)) (fun M91 ss q91 e91 k91 => ?_) (fun Mb kb ab eb hB => ?_)  
      · refine pv_then0 ?_
        refine pv_aloadn (pc := 94) (n := 0) 0 rfl rfl (fm_dec dtX11_work 50 rfl) ?_
        refine pv_invV0 (k := 0) (d' := 1) (pc := 95) pcv_X11_123 (by decide) rfl (Nat.le_of_ble_eq_true rfl) (by omega) (fm_dec dtX11_work 51 rfl) ?_
        refine r_blanks k91.1 k91.2.1 (fun M95 k95 => ?_)
        refine pv_then0 ?_
        refine pv_goto (pc := 98) 72 (by decide) (fm_dec dtX11_work 52 rfl) ?_
        have hl := spSt_len hP.1.2.2.2.1 _ _ _ _ _ _ _ hP.1.2.2.1 e91
        refine ih (b + ss.length) (sk tx q91) M95 (hP.next k91 hl.1 k95) (fun a h9 => hne a (wkL_2 hpn e91 h9)) (fun M9 ts q e h => hok M9 _ q (wkL_3 hpn e91 e) (k91.app k95.2.2 (k95.2.2.2.1 8 (by decide) (by decide) (by decide)) h)) (fun M9 k a e h => hbad M9 k a (wkL_2 hpn e91 e) ⟨h.1, h.2.1, h.2.2.1, h.2.2.2.1, (k91.2.2.2.2.2.rd k95.2.2).trans h.2.2.2.2 (by omega)⟩)
      · refine pv_then0 ?_
        obtain ⟨qb, hSb⟩ := hB.1
        refine pv_aloadn (pc := 94) (n := 0) 0 rfl rfl (fm_dec dtX11_work 50 rfl) ?_
        refine pv_invV0 (k := 0) (d' := 1) (pc := 95) pcv_X11_123 (by decide) rfl (Nat.le_of_ble_eq_true rfl) (by omega) (fm_dec dtX11_work 51 rfl) ?_
        refine c_blanks hSb (fun x95 hx95 => ?_)
        refine pv_then0 ?_
        refine pv_goto (pc := 98) 72 (by decide) (fm_dec dtX11_work 52 rfl) ?_
        exact wk_o1S (srBad.nz (hB.bl hSb hx95)) (hbad _ kb ab (wkL_1 hpn eb) (hB.bl hSb hx95))
set_option maxRecDepth 20000 in
theorem wk_e1S {Q : fmR → fmM → Prop} {M : fmM} {nn : Int32} (hf : ¬ M.1 0 5 = 0) (hq : Q (.inl (some (.int (M.1 0 5 - 10)))) (fmI M 0 3 (M.1 0 6))) : pvEv Tm 214 qX11_work 101 [some (.ref 0), some (.int nn)] [] M Q := by
  refine pv_aloadn (pc := 101) (n := 0) 0 rfl rfl (fm_dec dtX11_work 53 rfl) ?_
  refine pv_getI (k := 0) (j := 5) (ci := 11) (pc := 102) pfl_X11_117 (by decide) rfl (by decide) (fm_dec dtX11_work 54 rfl) ?_
  refine pv_if_eq (pc := 105) 113 (by decide) (fm_dec dtX11_work 55 rfl) (fun hc105 => by exfalso; exact hf hc105) (fun _ => ?_)
  refine pv_aloadn (pc := 108) (n := 0) 0 rfl rfl (fm_dec dtX11_work 56 rfl) ?_
  refine pv_invV0 (k := 0) (d' := 0) (pc := 109) pcv_X11_187 (by decide) rfl (Nat.le_of_ble_eq_true rfl) (by omega) (fm_dec dtX11_work 57 rfl) ?_
  refine c_ends ?_
  refine pv_then1 ?_
  exact pv_ireturn (pc := 112) rfl (fm_dec dtX11_work 58 rfl) hq
theorem lwM.f2 {M M' : fmM} {cs : tC} (h : lwM M cs) (e : M'.1 0 17 = M.1 0 17) (e2 : ∀ k j, 91 ≤ k → k < 251 → M'.1 k j = M.1 k j) : lwM M' cs := ⟨by rw [e]; exact h.1, h.2.1, h.2.2.1, fun i c hi => by
  have hl : i < cs.length := (List.getElem?_eq_some_iff.mp hi).1
  have h9 := h.2.1
  rw [e2 _ _ (by omega) (by omega), e2 _ _ (by omega) (by omega)]
  exact h.2.2.2 i c hi⟩
set_option maxRecDepth 20000 in
theorem wk_sS {Q : fmR → fmM → Prop} {M : fmM} {nn : Int32} {ss : tS} {w g9 : Nat} {D : dD} {cs : tC} {S : aS} (hf : M.1 0 5 = 0) (hD : dOk D) (hN : nuO D ss) (hg9 : wnL g9 6 0 ss) (hY : mdw M D) (hL : lwM M cs) (hd : cs = [] ∨ dpB 23 0 cs = some 1) (hs : mst M D S) (ho : stO D S) (hw : (M.1 0 32).toInt = w) (hw16 : w < 16) (hR : stRep M 0 ss) (hn : ss.length ≤ 80) (h26 : (M.1 0 26).toInt = (ss.length : Int)) (hq : ∀ (M3 M' : fmM), mAll M' D cs (goW D cs ss S) → cpB 7 (503 + w) 14 (fmI M 0 3 (-1)) M3 → nFr (wkM M3) M' → Q (.inl (some (.int (M'.1 0 37)))) M') : pvEv Tm 214 qX11_work 101 [some (.ref 0), some (.int nn)] [] M Q := by
  refine pv_aloadn (pc := 101) (n := 0) 0 rfl rfl (fm_dec dtX11_work 53 rfl) ?_
  refine pv_getI (k := 0) (j := 5) (ci := 11) (pc := 102) pfl_X11_117 (by decide) rfl (by decide) (fm_dec dtX11_work 54 rfl) ?_
  refine pv_if_eq (pc := 105) 113 (by decide) (fm_dec dtX11_work 55 rfl) (fun _ => ?_) (fun hc105 => by exfalso; exact hc105 hf)
  refine pv_aloadn (pc := 113) (n := 0) 0 rfl rfl (fm_dec dtX11_work 59 rfl) ?_
  refine pv_iconst (pc := 114) (v := (-1)) (by decide) (fm_dec dtX11_work 60 rfl) ?_
  refine pv_putI (k := 0) (j := 3) (ci := 11) (pc := 115) pfl_X11_9 (by decide) rfl (by decide) (fm_dec dtX11_work 61 rfl) ?_
  refine pv_aloadn (pc := 118) (n := 0) 0 rfl rfl (fm_dec dtX11_work 62 rfl) ?_
  refine pv_getR (k := 0) (j := 27) (ci := 11) (pc := 119) 7 rfl (by decide) pfl_X11_61 (by decide) rfl (by decide) (fm_dec dtX11_work 63 rfl) ?_
  refine pv_aloadn (pc := 122) (n := 0) 0 rfl rfl (fm_dec dtX11_work 64 rfl) ?_
  refine pv_getR (k := 0) (j := 29) (ci := 11) (pc := 123) 25 rfl (by decide) pfl_X11_67 (by decide) rfl (by decide) (fm_dec dtX11_work 65 rfl) ?_
  refine pv_aloadn (pc := 126) (n := 0) 0 rfl rfl (fm_dec dtX11_work 66 rfl) ?_
  refine pv_getI (k := 0) (j := 32) (ci := 11) (pc := 127) pfl_X11_200 (by decide) rfl (by decide) (fm_dec dtX11_work 67 rfl) ?_
  refine pv_aald (k := 25) (n := 16) (r := (503 + w)) (pc := 130) (by decide) (Or.inr (Or.inr rfl)) rfl (rw_before.inb hw hw16) (rw_before.at hw hw16) (rw_before.2.2.2 _ hw16).2.1 (fm_dec dtX11_work 68 rfl) ?_
  refine pv_iS2 (d' := 0) (pc := 131) pcs_X11_323 (Nat.le_of_ble_eq_true rfl) (by omega) (fm_dec dtX11_work 69 rfl) ?_
  refine c_mcp ro_7 (ro_b w hw16) (by omega) (fun M131 c131 => ?_) 
  refine pv_then0 ?_
  refine pv_aloadn (pc := 134) (n := 0) 0 rfl rfl (fm_dec dtX11_work 70 rfl) ?_
  refine pv_dup (pc := 135) rfl (fm_dec dtX11_work 71 rfl) ?_
  refine pv_getI (k := 0) (j := 32) (ci := 11) (pc := 136) pfl_X11_200 (by decide) rfl (by decide) (fm_dec dtX11_work 72 rfl) ?_
  refine pv_iconst (pc := 139) (v := 1) (by decide) (fm_dec dtX11_work 73 rfl) ?_
  refine pv_iadd (pc := 140) (fm_dec dtX11_work 74 rfl) ?_
  refine pv_putI (k := 0) (j := 32) (ci := 11) (pc := 141) pfl_X11_200 (by decide) rfl (by decide) (fm_dec dtX11_work 75 rfl) ?_
  refine pv_aloadn (pc := 144) (n := 0) 0 rfl rfl (fm_dec dtX11_work 76 rfl) ?_
  refine pv_iconst (pc := 145) (v := 0) (by decide) (fm_dec dtX11_work 77 rfl) ?_
  refine pv_putI (k := 0) (j := 36) (ci := 11) (pc := 146) pfl_X11_310 (by decide) rfl (by decide) (fm_dec dtX11_work 78 rfl) ?_
  refine pv_aloadn (pc := 149) (n := 0) 0 rfl rfl (fm_dec dtX11_work 79 rfl) ?_
  refine pv_iconst (pc := 150) (v := 0) (by decide) (fm_dec dtX11_work 80 rfl) ?_
  refine pv_putI (k := 0) (j := 37) (ci := 11) (pc := 151) pfl_X11_320 (by decide) rfl (by decide) (fm_dec dtX11_work 81 rfl) ?_
  refine pv_aloadn (pc := 154) (n := 0) 0 rfl rfl (fm_dec dtX11_work 82 rfl) ?_
  refine pv_iconst (pc := 155) (v := 0) (by decide) (fm_dec dtX11_work 83 rfl) ?_
  refine pv_putI (k := 0) (j := 33) (ci := 11) (pc := 156) pfl_X11_203 (by decide) rfl (by decide) (fm_dec dtX11_work 84 rfl) ?_
  show pvEv Tm 214 qX11_work 159 _ _ (wkM M131) Q
  have ek : ∀ k j, k ≠ 0 → k < 503 → (wkM M131).1 k j = M.1 k j := fun k j h0 h1 => (by unfold wkM; rw [fmI_k _ _ h0, fmI_k _ _ h0, fmI_k _ _ h0, fmI_k _ _ h0, c131.2.1 k j (by omega), fmI_k _ _ h0])
  have e0 : ∀ j, j ≠ 3 → j ≠ 32 → j ≠ 33 → j ≠ 36 → j ≠ 37 → (wkM M131).1 0 j = M.1 0 j := fun j a b c d e => (by unfold wkM; rw [fmI_j _ _ c, fmI_j _ _ e, fmI_j _ _ d, fmI_j _ _ b, c131.2.1 0 j (by omega), fmI_j _ _ a])
  have hA9 : mAll (wkM M131) D cs (S, 0, 0, 0) := ⟨hY.k hD (fun k j a => ek k j (by omega) (by omega)), hL.f2 (e0 17 (by decide) (by decide) (by decide) (by decide) (by decide)) (fun k j a b => ek k j (by omega) (by omega)), hd, hs.of (fun j => ek 7 j (by decide) (by decide)), ho, z_i, z_i, z_i, Nat.le_refl _, Nat.zero_le _⟩
  have hR9 : stRep (wkM M131) 0 ss := hR.of (by omega) (fun k j a b => ek k j (by omega) b)
  have hz9 : ((wkM M131).1 0 26).toInt = ((0 + ss.length : Nat) : Int) := (by rw [e0 26 (by decide) (by decide) (by decide) (by decide) (by decide), Nat.zero_add]; exact h26)
  refine pv_aloadn (pc := 159) (n := 0) 0 rfl rfl (fm_dec dtX11_work 85 rfl) ?_
  refine pv_iconst (pc := 160) (v := 0) (by decide) (fm_dec dtX11_work 86 rfl) ?_
  refine pv_aloadn (pc := 161) (n := 0) 0 rfl rfl (fm_dec dtX11_work 87 rfl) ?_
  refine pv_getI (k := 0) (j := 26) (ci := 11) (pc := 162) pfl_X11_250 (by decide) rfl (by decide) (fm_dec dtX11_work 88 rfl) ?_
  refine pv_invV2 (k := 0) (d' := (12 + 201)) (pc := 165) pcv_X11_313 (by decide) rfl (Nat.le_of_ble_eq_true rfl) (by omega) (fm_dec dtX11_work 89 rfl) ?_
  refine (mg_E (cs := cs) hD hN hn 201).go (M := wkM M131) (a := 0) (l := ss) (g := g9) (d := 6) hA9 hR9 seg_0 (by omega) hg9 (by decide) hz9 (by show 200 - 0 < 201; decide) (fun M165 h165 f165 => ?_) 
  refine pv_then0 ?_
  refine pv_aloadn (pc := 168) (n := 0) 0 rfl rfl (fm_dec dtX11_work 90 rfl) ?_
  refine pv_getI (k := 0) (j := 37) (ci := 11) (pc := 169) pfl_X11_320 (by decide) rfl (by decide) (fm_dec dtX11_work 91 rfl) ?_
  exact pv_ireturn (pc := 172) rfl (fm_dec dtX11_work 92 rfl) (hq M131 M165 h165 c131 f165)
/-- what reading a work leaves on the other side -/
def woF (M M' : fmM) : Prop := (∀ k j, k ≠ 0 → ¬ (423 ≤ k ∧ k < 503) → M'.1 k j = M.1 k j) ∧ (∀ j, j = 17 ∨ (31 ≤ j ∧ j ≤ 34) → M'.1 0 j = M.1 0 j) ∧ M'.2 = M.2 ∧ M'.1 0 0 = 0
theorem woF.p3 {M M' : fmM} {x : Int32} (h : woF M M') : woF M (fmI M' 0 3 x) := ⟨fun k j a b => by rw [fmI_k _ _ a]; exact h.1 k j a b, fun j a => by rw [fmI_j _ _ (by omega)]; exact h.2.1 j a, h.2.2.1, by rw [fmI_j _ _ (by decide)]; exact h.2.2.2⟩
theorem wo_F {M M1 M' : fmM} {tx : tX} {n : Nat} (h : stOk (fmI M 0 0 0) M1 tx n) (h2 : srFr 0 (fmI M1 0 26 0) M') : woF M M' := by
  refine ⟨fun k j a b => ?_, fun j a => ?_, ?_, ?_⟩
  · rw [h2.1 k j a (by omega), fmI_k _ _ a]
    exact st_k h a
  · rw [h2.2.1 j (by omega) (by omega) (by omega) (by omega) (by omega), fmI_j _ _ (by omega)]
    exact st_j h (by omega)
  · rw [h2.2.2]
    exact h.2.2.2.2.2.2.2.2.trans rfl
  · rw [h2.2.1 0 (by decide) (by decide) (by decide) (by decide) (by decide), fmI_j _ _ (by decide), h.2.2.2.2.2.2.2.1 0 (by decide) (by decide) (by decide) (by decide) (by decide) (by decide) (by decide), fmI_s]
/-- and what doing it leaves: w works were there -/
def woK (w : Nat) (M M' : fmM) : Prop := (∀ k j, k ≠ 0 → k ≠ 5 → k ≠ 6 → k ≠ 7 → k ≠ 503 + w → ¬ (423 ≤ k ∧ k < 503) → M'.1 k j = M.1 k j) ∧ (∀ j, j < 14 → M'.1 (503 + w) j = M.1 7 j) ∧ M'.1 0 32 = M.1 0 32 + 1 ∧ M'.1 0 34 = M.1 0 34 ∧ M'.1 0 31 = M.1 0 31 ∧ M'.1 0 17 = M.1 0 17 ∧ M'.1 0 0 = 0
theorem wo_M {M M2 M3 M' : fmM} {w : Nat} (hw : w < 16) (h : woF M M2) (c : cpB 7 (503 + w) 14 (fmI M2 0 3 (-1)) M3) (f : nFr (wkM M3) M') : woK w M M' := by
  have e3 : ∀ k j, k ≠ 0 → (wkM M3).1 k j = M3.1 k j := fun k j a => by
    unfold wkM
    rw [fmI_k _ _ a, fmI_k _ _ a, fmI_k _ _ a, fmI_k _ _ a]
  have e0 : ∀ j, j = 17 ∨ j = 31 ∨ j = 34 → (wkM M3).1 0 j = M2.1 0 j := fun j a => by
    unfold wkM
    rw [fmI_j _ _ (by omega), fmI_j _ _ (by omega), fmI_j _ _ (by omega), fmI_j _ _ (by omega), c.2.1 0 j (by omega), fmI_j _ _ (by omega)]
  refine ⟨fun k j a b d e g i => ?_, fun j hj => ?_, ?_, ?_, ?_, ?_, ?_⟩
  · rw [f.1 k j a b d e, e3 k j a, c.2.1 k j (by omega), fmI_k _ _ a]
    exact h.1 k j a i
  · rw [f.1 _ j (by omega) (by omega) (by omega) (by omega), e3 _ j (by omega), c.1 j hj, fmI_k _ _ (by decide)]
    exact h.1 7 j (by decide) (by decide)
  · rw [f.2.1 32 (by decide) (by decide) (by decide)]
    unfold wkM
    rw [fmI_j _ _ (by decide), fmI_j _ _ (by decide), fmI_j _ _ (by decide), fmI_s, c.2.1 0 32 (by omega), fmI_j _ _ (by decide), h.2.1 32 (by decide)]
  · rw [f.2.1 34 (by decide) (by decide) (by decide), e0 34 (by decide)]
    exact h.2.1 34 (by decide)
  · rw [f.2.1 31 (by decide) (by decide) (by decide), e0 31 (by decide)]
    exact h.2.1 31 (by decide)
  · rw [f.2.1 17 (by decide) (by decide) (by decide), e0 17 (by decide)]
    exact h.2.1 17 (by decide)
  · rw [f.2.1 0 (by decide) (by decide) (by decide)]
    unfold wkM
    rw [fmI_j _ _ (by decide), fmI_j _ _ (by decide), fmI_j _ _ (by decide), fmI_j _ _ (by decide), c.2.1 0 0 (by omega), fmI_j _ _ (by decide)]
    exact h.2.2.2
/-- a work, on both sides -/
theorem rSt.wo {M M' M2 M2' : fmM} {D : dD} {S' : aS} {w : Nat} (h : rSt M M2 D) (hD : D.1 ≤ 8) (hw : (M.1 46 2).toInt = (w : Int)) (h16 : w < 16) (hx : xst M' D S') (hm : mst M2' D S') (ho : stO D S') (k1 : wkK w M M') (k2 : woK w M2 M2') : rSt M' M2' D := by
  obtain ⟨⟨h1, h2, h3⟩, h4, h5⟩ := h
  obtain ⟨a1, a2, a3, a4⟩ := k1
  obtain ⟨b1, b2, b3, b4, -, -, -⟩ := k2
  have h1 : M.1 46 2 = M2.1 0 32 := h1
  refine ⟨⟨?_, ⟨S', hx, hm, ho⟩, fun w' hw' h16' => ?_⟩, ?_, fun i hi hi3 => ?_⟩
  · show M'.1 46 2 = _
    rw [a4, b3, h1]
  · rw [b3, ← h1, i32_p1 hw (by omega)] at hw'
    by_cases e : w' = w
    · subst e
      exact h2.cp hD a3 (fun j hj => b2 j hj)
    · exact (h3 w' (by rw [← h1]; omega) h16').cp hD (smS.same (fun j => (a1 _ (by omega) j).1) (fun j => (a1 _ (by omega) j).1) (a1 _ (by omega) 6).2) (fun j _ => b1 _ j (by omega) (by omega) (by omega) (by omega) (by omega) (by omega))
  · rw [a2, b4]
    exact h4
  · rw [a2] at hi
    exact (h5 i hi hi3).keep hD (fun k a b j => a1 k (by omega) j) (b1 _ _ (by omega) (by omega) (by omega) (by omega) (by omega) (by omega)) (fun j _ => b1 _ _ (by omega) (by omega) (by omega) (by omega) (by omega) (by omega)) (fun w _ j _ => b1 _ _ (by omega) (by omega) (by omega) (by omega) (by omega) (by omega))
set_option maxRecDepth 20000 in
theorem c_mwoS {M : fmM} {Q : fmR → fmM → Prop} {nn : Int32} {w : Nat} {D : dD} {cs : tC} {S : aS} (hI : scInv Tm invM M) (hD : dOk D) (hY : mdw M D) (hL : lwM M cs) (hd : cs = [] ∨ dpB 23 0 cs = some 1) (hs : mst M D S) (ho : stO D S) (hw : (M.1 0 32).toInt = (w : Int)) (hw16 : w ≤ 16) (hrf : ¬ txP nn 150 (M.1 0 1).toInt → Q (.inl (some (.int 0))) (rfM M 1 1)) (hful : txP nn 150 (M.1 0 1).toInt → w = 16 → Q (.inl (some (.int (-20)))) (fmI (fmI (fmI M 0 0 0) 0 1 0) 0 3 (-1))) (hbad : ∀ (n k a : Nat) (r : Int32) (M' : fmM), nn.toInt = (n : Int) → txP nn 150 (M.1 0 1).toInt → w < 16 → spWork (rT M n) n D.1 = .inl (k, a) → r.toInt = (k : Int) - 10 → woF M M' → Q (.inl (some (.int r))) M') (hok : ∀ (n : Nat) (ss : tS) (M' : fmM), nn.toInt = (n : Int) → txP nn 150 (M.1 0 1).toInt → w < 16 → spWork (rT M n) n D.1 = .inr ss → mAll M' D cs (goW D cs ss S) → woK w M M' → Q (.inl (some (.int (M'.1 0 37)))) M') : pvGood Tm 214 qX11_work [.ref 0, .int nn] M Q := by
  refine pvGood_of (Nat.le_of_ble_eq_true rfl) ?_
  show pvEv Tm 214 qX11_work 0 [some (.ref 0), some (.int nn)] [] M Q
  have h4 : (M.1 4 0).toInt = (D.1 : Int) := hY.1
  have hl := hD.1
  have hI0 := hI.p00 (x := 0) (Or.inl rfl)
  have hfed := inv_fed hI
  refine pv_aloadn (pc := 0) (n := 0) 0 rfl rfl (fm_dec dtX11_work 0 rfl) ?_
  refine pv_iconst (pc := 1) (v := 0) (by decide) (fm_dec dtX11_work 1 rfl) ?_
  refine pv_putI (k := 0) (j := 0) (ci := 11) (pc := 2) pfl_X11_101 (by decide) rfl (by decide) (fm_dec dtX11_work 2 rfl) ?_
  refine pv_aloadn (pc := 5) (n := 0) 0 rfl rfl (fm_dec dtX11_work 3 rfl) ?_
  refine pv_iloadn (pc := 6) (n := 1) 1 rfl rfl (fm_dec dtX11_work 4 rfl) ?_
  refine pv_iconst (pc := 7) (v := 0) (by decide) (fm_dec dtX11_work 5 rfl) ?_
  refine pv_aloadn (pc := 8) (n := 0) 0 rfl rfl (fm_dec dtX11_work 6 rfl) ?_
  refine pv_getI (k := 0) (j := 1) (ci := 11) (pc := 9) pfl_X11_104 (by decide) rfl (by decide) (fm_dec dtX11_work 7 rfl) ?_
  refine pv_iS3 (d' := 0) (pc := 12) pcs_X11_135 (Nat.le_of_ble_eq_true rfl) (by decide) (fm_dec dtX11_work 8 rfl) ?_
  refine c_in (fun h12a h12b => ?_) (fun h12 => ?_)
  · refine pv_then1 ?_
    refine pv_if_eq (pc := 15) 25 (by decide) (fm_dec dtX11_work 9 rfl) (fun hc15 => by exfalso; revert hc15; decide) (fun _ => ?_)
    refine pv_iloadn (pc := 18) (n := 1) 1 rfl rfl (fm_dec dtX11_work 10 rfl) ?_
    refine pv_sipush (pc := 19) (v := 150) (by decide) (fm_dec dtX11_work 11 rfl) ?_
    refine pv_icmp_le (pc := 22) 29 (by decide) (fm_dec dtX11_work 12 rfl) (fun hc22 => ?_) (fun hc22 => ?_)
    · refine pv_iconst (pc := 29) (v := 0) (by decide) (fm_dec dtX11_work 15 rfl) ?_
      refine pv_iconst (pc := 30) (v := 1) (by decide) (fm_dec dtX11_work 16 rfl) ?_
      refine pv_iconst (pc := 31) (v := 1) (by decide) (fm_dec dtX11_work 17 rfl) ?_
      refine pv_invV3 (k := 0) (d' := 0) (pc := 32) pcv_X11_177 (by decide) rfl (Nat.le_of_ble_eq_true rfl) (by decide) (fm_dec dtX11_work 18 rfl) ?_
      refine c_badF1 rfl ?_
      refine pv_then1 ?_
      refine pv_if_eq (pc := 35) 40 (by decide) (fm_dec dtX11_work 19 rfl) (fun _ => ?_) (fun hc35 => by exfalso; revert hc35; decide)
      refine pv_aloadn (pc := 40) (n := 0) 0 rfl rfl (fm_dec dtX11_work 22 rfl) ?_
      refine pv_getI (k := 0) (j := 32) (ci := 11) (pc := 41) pfl_X11_200 (by decide) rfl (by decide) (fm_dec dtX11_work 23 rfl) ?_
      refine pv_bipush (pc := 44) (v := 16) (by decide) (fm_dec dtX11_work 24 rfl) ?_
      refine pv_icmp_ne (pc := 46) 62 (by decide) (fm_dec dtX11_work 25 rfl) (fun hc46 => ?_) (fun hc46 => ?_)
      · obtain ⟨n0, hn0⟩ : ∃ n0 : Nat, nn.toInt = n0 := ⟨nn.toInt.toNat, by have h9 : (0 : Int32).toInt = 0 := (by decide); omega⟩
        have hn150 : n0 ≤ 150 := (by have h9 := hc22; rw [sc_le] at h9; have h8 : (150 : Int32).toInt = 150 := (by decide); omega)
        have hn6 : n0 ≤ 600 := (by omega)
        refine pv_aloadn (pc := 62) (n := 0) 0 rfl rfl (fm_dec dtX11_work 34 rfl) ?_
        refine pv_iloadn (pc := 63) (n := 1) 1 rfl rfl (fm_dec dtX11_work 35 rfl) ?_
        refine pv_invV1 (k := 0) (d' := 2) (pc := 64) pcv_X11_181 (by decide) rfl (Nat.le_of_ble_eq_true rfl) (by omega) (fm_dec dtX11_work 36 rfl) ?_
        refine c_starts (n := n0) (M := fmI M 0 0 0) hfed hn6 hn0 (fun M64 h64 => ?_) 
        refine pv_then0 ?_
        refine pv_aloadn (pc := 67) (n := 0) 0 rfl rfl (fm_dec dtX11_work 37 rfl) ?_
        refine pv_iconst (pc := 68) (v := 0) (by decide) (fm_dec dtX11_work 38 rfl) ?_
        refine pv_putI (k := 0) (j := 26) (ci := 11) (pc := 69) pfl_X11_250 (by decide) rfl (by decide) (fm_dec dtX11_work 39 rfl) ?_
        have hI64 := inv_st hI h64
        have hok9 := rT_ok (n := n0) hfed hn6
        have hs0 : sk (rT M n0) 0 ≤ n0 := sp_le tB_1 hok9 (Nat.zero_le _)
        have hIs : scInv Tm invM (fmI M64 0 26 0) := hI64.put (scq_t 0) rfl
        have h4s : ((fmI M64 0 26 0).1 4 0).toInt = D.1 := (by rw [fmI_k _ _ (by decide), st_k h64 (by decide)]; exact h4)
        have hP : srPre (fmI M64 0 26 0) (rT M n0) n0 (sk (rT M n0) 0) 0 0 D.1 := ⟨h64.1.of rfl rfl rfl, h64.2.1, (by show (M64.1 0 8).toInt = _; rw [h64.2.2.1]; decide), by decide, (by rw [fmI_s]; decide), by omega, hn150, h4s, hl⟩
        have hbd := fun e he => wkL_bad hok9 hn150 700 0 (sk (rT M n0) 0) e hs0 (by omega) he (l := D.1)
        have hwlt : w < 16 := (by have h9 : ¬ w = 16 := (fun h9 => hc46 (i32_ext (hw.trans (by rw [h9]; decide)))); omega)
        refine wk_loopS (l := D.1) 700 0 _ _ hP (fun a h9 => by have h8 := (hbd _ h9).1.2; exact absurd h8 (show ¬ 9 ≤ 3 by decide)) (fun M2 ss q e h => ?_) (fun M2 k a e hB => ?_)
        · have g := wkL_ok hok9 700 0 _ ss hs0 e
          have hN := spWork_nu hok9 hn150 hD.1 e
          obtain ⟨g9, hg9⟩ := spWork_wn (l := D.1) e
          have ew : woF M M2 := wo_F h64 h.2.2.2.2.2
          refine wk_sS (w := w) h.2.1 hD hN.1 hg9 (hY.k hD (fun k j a => ew.1 k j (by omega) (by omega))) (hL.f2 (ew.2.1 17 (by decide)) (fun k j a b => ew.1 k j (by omega) (by omega))) hd (hs.of (fun j => ew.1 7 j (by decide) (by decide))) ho (by rw [ew.2.1 32 (by decide)]; exact hw) hwlt h.2.2.2.2.1 (by omega) (by rw [h.2.2.2.1]; congr 1; omega) (fun M3 M' a1 a2 a3 => hok n0 ss M' hn0 ⟨by omega, by omega, by exact h12b⟩ hwlt e a1 (wo_M hwlt ew a2 a3))
        · have hk := hbd _ e
          exact wk_e1S hB.nz (hbad n0 k a _ _ hn0 ⟨by omega, by omega, by exact h12b⟩ hwlt e (law_r hB.2.1 (by have h8 := hB.2.1; have h7 := hk.1; omega)) (wo_F h64 hB.2.2.2.2).p3)
      · refine pv_aloadn (pc := 49) (n := 0) 0 rfl rfl (fm_dec dtX11_work 26 rfl) ?_
        refine pv_iconst (pc := 50) (v := 0) (by decide) (fm_dec dtX11_work 27 rfl) ?_
        refine pv_putI (k := 0) (j := 1) (ci := 11) (pc := 51) pfl_X11_104 (by decide) rfl (by decide) (fm_dec dtX11_work 28 rfl) ?_
        refine pv_aloadn (pc := 54) (n := 0) 0 rfl rfl (fm_dec dtX11_work 29 rfl) ?_
        refine pv_iconst (pc := 55) (v := (-1)) (by decide) (fm_dec dtX11_work 30 rfl) ?_
        refine pv_putI (k := 0) (j := 3) (ci := 11) (pc := 56) pfl_X11_9 (by decide) rfl (by decide) (fm_dec dtX11_work 31 rfl) ?_
        refine pv_bipush (pc := 59) (v := (-20)) (by decide) (fm_dec dtX11_work 32 rfl) ?_
        exact pv_ireturn (pc := 61) rfl (fm_dec dtX11_work 33 rfl) (hful ⟨by have h9 : (0 : Int32).toInt = 0 := (by decide); omega, by have h9 := hc22; rw [sc_le] at h9; have h8 : (150 : Int32).toInt = 150 := (by decide); omega, by exact h12b⟩ (by have h8 : (M.1 0 32).toInt = (16 : Int32).toInt := congrArg Int32.toInt hc46; have h7 : (16 : Int32).toInt = 16 := (by decide); omega))
    · refine pv_iconst (pc := 25) (v := 1) (by decide) (fm_dec dtX11_work 13 rfl) ?_
      refine pv_goto (pc := 26) 30 (by decide) (fm_dec dtX11_work 14 rfl) ?_
      refine pv_iconst (pc := 30) (v := 1) (by decide) (fm_dec dtX11_work 16 rfl) ?_
      refine pv_iconst (pc := 31) (v := 1) (by decide) (fm_dec dtX11_work 17 rfl) ?_
      refine pv_invV3 (k := 0) (d' := 0) (pc := 32) pcv_X11_177 (by decide) rfl (Nat.le_of_ble_eq_true rfl) (by decide) (fm_dec dtX11_work 18 rfl) ?_
      refine c_badT1 rfl (by decide) ?_
      refine pv_then1 ?_
      refine pv_if_eq (pc := 35) 40 (by decide) (fm_dec dtX11_work 19 rfl) (fun hc35 => by exfalso; revert hc35; decide) (fun _ => ?_)
      refine pv_iconst (pc := 38) (v := 0) (by decide) (fm_dec dtX11_work 20 rfl) ?_
      exact pv_ireturn (pc := 39) rfl (fm_dec dtX11_work 21 rfl) (hrf (by intro h9; first | (have h8 := hc22; rw [sc_le] at h8; have h7 : (150 : Int32).toInt = 150 := (by decide); have h6 := h9.2.1; omega) | exact h12 ⟨(show (0 : Int32).toInt ≤ _ from h9.1), h9.2.2⟩))
  · refine pv_then1 ?_
    refine pv_if_eq (pc := 15) 25 (by decide) (fm_dec dtX11_work 9 rfl) (fun _ => ?_) (fun hc15 => by exfalso; revert hc15; decide)
    refine pv_iconst (pc := 25) (v := 1) (by decide) (fm_dec dtX11_work 13 rfl) ?_
    refine pv_goto (pc := 26) 30 (by decide) (fm_dec dtX11_work 14 rfl) ?_
    refine pv_iconst (pc := 30) (v := 1) (by decide) (fm_dec dtX11_work 16 rfl) ?_
    refine pv_iconst (pc := 31) (v := 1) (by decide) (fm_dec dtX11_work 17 rfl) ?_
    refine pv_invV3 (k := 0) (d' := 0) (pc := 32) pcv_X11_177 (by decide) rfl (Nat.le_of_ble_eq_true rfl) (by decide) (fm_dec dtX11_work 18 rfl) ?_
    refine c_badT1 rfl (by decide) ?_
    refine pv_then1 ?_
    refine pv_if_eq (pc := 35) 40 (by decide) (fm_dec dtX11_work 19 rfl) (fun hc35 => by exfalso; revert hc35; decide) (fun _ => ?_)
    refine pv_iconst (pc := 38) (v := 0) (by decide) (fm_dec dtX11_work 20 rfl) ?_
    exact pv_ireturn (pc := 39) rfl (fm_dec dtX11_work 21 rfl) (hrf (by intro h9; first | (have h8 := hc22; rw [sc_le] at h8; have h7 : (150 : Int32).toInt = 150 := (by decide); have h6 := h9.2.1; omega) | exact h12 ⟨(show (0 : Int32).toInt ≤ _ from h9.1), h9.2.2⟩))
end
-- P 18yg
section
-- FRACTIONS IN LEAST TERMS, exactly
theorem j64_ext {a b : Int64} (h : a.toInt = b.toInt) : a = b := Int64.toInt_inj.mp h
def iZ (v : Int) : Int32 := Int32.ofInt v
theorem iZ_is {x : Int32} {v : Int} (h : x.toInt = v) : x = iZ v := by
  subst h
  exact (Int32.ofInt_toInt x).symm
def jZ (v : Int) : Int64 := Int64.ofInt v
theorem jZ_is {x : Int64} {v : Int} (h : x.toInt = v) : x = jZ v := by
  subst h
  exact (Int64.ofInt_toInt x).symm
/-- above (p 0) or below of a by b, in least terms -/
def frV (a b : Int64) (p : Int32) : Int64 := (if p = 0 then a else b) / jZ ((Nat.gcd a.toInt.toNat b.toInt.toNat : Nat) : Int)
theorem frV_0 {a b g : Int64} {p : Int32} (h : g.toInt = ((Nat.gcd a.toInt.toNat b.toInt.toNat : Nat) : Int)) (hp : p = 0) : a / g = frV a b p := by
  unfold frV
  rw [if_pos hp, ← jZ_is h]
theorem frV_1 {a b g : Int64} {p : Int32} (h : g.toInt = ((Nat.gcd a.toInt.toNat b.toInt.toNat : Nat) : Int)) (hp : ¬ p = 0) : b / g = frV a b p := by
  unfold frV
  rw [if_neg hp, ← jZ_is h]
theorem lcq {x : Int64} : lg_cmp x 0 = 0 ↔ x = 0 := by
  unfold lg_cmp
  split
  · rename_i h
    constructor
    · intro h9
      exact absurd h9 (by decide)
    · intro h9
      rw [h9] at h
      exact absurd h (by decide)
  · split
    · rename_i h
      exact ⟨fun _ => h, fun _ => rfl⟩
    · rename_i h
      exact ⟨fun h9 => absurd h9 (by decide), fun h9 => absurd h9 h⟩
theorem lcp {x : Int64} (h : 0 < x.toInt) : ¬ lg_cmp x 0 ≤ 0 := by
  unfold lg_cmp
  split
  · decide
  · rename_i h9
    have z0 : (0 : Int64).toInt = 0 := by decide
    have h8 : ¬ (0 : Int64).toInt < x.toInt := fun e => h9 (Int64.lt_iff_toInt_lt.mpr e)
    omega
theorem rem_n {x z : Int64} {u v : Nat} (hx : x.toInt = (v : Int)) (hz : z.toInt = (u : Int)) (hu : 0 < u) : (x - x / z * z).toInt = ((v % u : Nat) : Int) := by
  have e1 : (x / z).toInt = ((v / u : Nat) : Int) := by
    rw [Int64.toInt_div, hx, hz, ← Int.ofNat_tdiv]
    have b := x.toInt_lt
    have h1 : v / u ≤ v := Nat.div_le_self _ _
    have h0 : 0 ≤ ((v / u : Nat) : Int) := Int.natCast_nonneg _
    exact Int.bmod_eq_of_le (by omega) (by omega)
  have h2 : v / u * u ≤ v := Nat.div_mul_le_self v u
  have h3 : v % u = v - v / u * u := by
    have h4 := Nat.div_add_mod v u
    rw [Nat.mul_comm] at h4
    omega
  have b := x.toInt_lt
  have e2 : (x / z * z).toInt = ((v / u * u : Nat) : Int) := by
    rw [Int64.toInt_mul, e1, hz, ← Int.natCast_mul]
    exact Int.bmod_eq_of_le (by omega) (by omega)
  rw [Int64.toInt_sub, e2, hx]
  rw [Int.bmod_eq_of_le (by omega) (by omega)]
  omega
/-- so many turns are enough -/
def euB (k u v : Nat) : Prop := (u ≤ v ∧ u * v < 2 ^ k) ∨ (v < u ∧ ∃ k', k = k' + 1 ∧ u * v < 2 ^ k')
theorem eu_0 {u v : Nat} (h : euB 0 u v) (hv : 0 < v) : u = 0 := by
  rcases h with ⟨_, h⟩ | ⟨_, k, h, _⟩
  · rcases Nat.eq_zero_or_pos u with e | e
    · exact e
    · have h9 := Nat.mul_pos e hv
      omega
  · omega
theorem eu_s {k u v : Nat} (h : euB (k + 1) u v) (hu : 0 < u) : euB k (v % u) u := by
  have hm := Nat.mod_lt v hu
  rcases h with ⟨h1, h2⟩ | ⟨h1, k', h3, h2⟩
  · refine Or.inl ⟨by omega, ?_⟩
    have h3 : 2 * (v % u) ≤ v := by
      have h4 := Nat.div_add_mod v u
      have h5 : 1 ≤ v / u := (Nat.one_le_div_iff hu).mpr h1
      have h6 : u * 1 ≤ u * (v / u) := Nat.mul_le_mul_left u h5
      omega
    have h4 : 2 * (v % u) * u ≤ v * u := Nat.mul_le_mul_right u h3
    rw [Nat.mul_comm u v] at h2
    rw [Nat.pow_succ] at h2
    rw [Nat.mul_assoc] at h4
    omega
  · obtain rfl : k = k' := by omega
    refine Or.inl ⟨by omega, ?_⟩
    rw [Nat.mod_eq_of_lt h1, Nat.mul_comm]
    exact h2
theorem eu_st {a b : Int64} (h0 : 0 ≤ a.toInt) (h1 : 0 < b.toInt) : euB 127 a.toInt.toNat b.toInt.toNat := by
  have ba := a.toInt_lt
  have bb := b.toInt_lt
  have h2 : a.toInt.toNat * b.toInt.toNat ≤ (2 ^ 63 - 1) * (2 ^ 63 - 1) := Nat.mul_le_mul (by omega) (by omega)
  by_cases e : a.toInt.toNat ≤ b.toInt.toNat
  · exact Or.inl ⟨e, by omega⟩
  · exact Or.inr ⟨by omega, 126, rfl, by omega⟩
theorem eu_g {u v : Nat} : Nat.gcd (v % u) u = Nat.gcd u v := (Nat.gcd_rec u v).symm
theorem div_nz {x : Int64} (h : 0 < x.toInt) : ¬ x = 0 := by
  intro e
  rw [e] at h
  exact absurd h (by decide)
theorem ge_1 {x : Int64} {u : Nat} (hx : x.toInt = (u : Int)) (hne : ¬ x = 0) : 0 < u := by
  rcases Nat.eq_zero_or_pos u with e | e
  · exact absurd (j64_ext (by rw [hx, e]; decide)) hne
  · exact e
set_option maxRecDepth 20000 in
theorem xtm_loop {Q : fmR → fmM → Prop} {M : fmM} {a b : Int64} {p : Int32} (hq : Q (.inl (some (.long (frV a b p)))) M) : ∀ (k : Nat) (u v : Nat) (i : Nat) (one oth : Int64) (v10 v11 : Option Value), euB k u v → 0 < v → one.toInt = (u : Int) → oth.toInt = (v : Int) → Nat.gcd u v = Nat.gcd a.toInt.toNat b.toInt.toNat → i + k ≤ 200 → pvEv Tx 0 qX10_termOf 9 [some (.long a), none, some (.long b), none, some (.int p), some (.long one), none, some (.long oth), none, some (.int (nI i)), v10, v11] [] M Q := by
  intro k
  induction k using Nat.strongRecOn with
  | _ k ih =>
    intro u v i one oth v10 v11 hE hv h1 h2 hgc hik
    refine pv_iload (pc := 9) (i := 9) rfl (fm_dec dtX10_termOf 6 rfl) ?_
    refine pv_sipush (pc := 11) (v := 200) (by decide) (fm_dec dtX10_termOf 7 rfl) ?_
    refine pv_icmp_ge (pc := 14) 45 (by decide) (fm_dec dtX10_termOf 8 rfl) (fun hc14 => ?_) (fun hc14 => ?_)
    · have hu0 : u = 0 := eu_0 (by have h9 : 200 ≤ i := (by have h8 : (200 : Int32).toInt = 200 := (by decide); have h7 : (nI i).toInt = (i : Int) := nI_toInt (by omega); rw [sc_le] at hc14; omega); have e9 : k = 0 := (by omega); rw [e9] at hE; exact hE) hv
      have hg : oth.toInt = ((Nat.gcd a.toInt.toNat b.toInt.toNat : Nat) : Int) := (by rw [← hgc, hu0, Nat.gcd_zero_left]; exact h2)
      have hp9 : 0 < oth.toInt := (by omega)
      refine pv_lload (pc := 45) (i := 7) rfl (fm_dec dtX10_termOf 23 rfl) ?_
      refine pv_lconst (pc := 47) (v := 0) (by decide) (fm_dec dtX10_termOf 24 rfl) ?_
      refine pv_lcmp (pc := 48) (fm_dec dtX10_termOf 25 rfl) ?_
      refine pv_if_le (pc := 49) 57 (by decide) (fm_dec dtX10_termOf 26 rfl) (fun hc49 => by exfalso; exact lcp hp9 hc49) (fun _ => ?_)
      refine pv_lload (pc := 52) (i := 7) rfl (fm_dec dtX10_termOf 27 rfl) ?_
      refine pv_goto (pc := 54) 58 (by decide) (fm_dec dtX10_termOf 28 rfl) ?_
      refine pv_lstore (pc := 58) (i := 9) (by decide) rfl (fm_dec dtX10_termOf 30 rfl) ?_
      dsimp only [List.set_cons_zero, List.set_cons_succ]
      refine pv_iload (pc := 60) (i := 4) rfl (fm_dec dtX10_termOf 31 rfl) ?_
      refine pv_if_ne (pc := 62) 69 (by decide) (fm_dec dtX10_termOf 32 rfl) (fun hc62 => ?_) (fun hc62 => ?_)
      · refine pv_lloadn (pc := 69) (n := 2) 2 rfl rfl (fm_dec dtX10_termOf 35 rfl) ?_
        refine pv_lload (pc := 70) (i := 9) rfl (fm_dec dtX10_termOf 36 rfl) ?_
        refine pv_ldiv (pc := 72) (div_nz hp9) (fm_dec dtX10_termOf 37 rfl) ?_
        exact pv_lreturn (pc := 73) rfl (fm_dec dtX10_termOf 38 rfl) (by rw [frV_1 hg hc62]; exact hq)
      · refine pv_lloadn (pc := 65) (n := 0) 0 rfl rfl (fm_dec dtX10_termOf 33 rfl) ?_
        refine pv_goto (pc := 66) 70 (by decide) (fm_dec dtX10_termOf 34 rfl) ?_
        refine pv_lload (pc := 70) (i := 9) rfl (fm_dec dtX10_termOf 36 rfl) ?_
        refine pv_ldiv (pc := 72) (div_nz hp9) (fm_dec dtX10_termOf 37 rfl) ?_
        exact pv_lreturn (pc := 73) rfl (fm_dec dtX10_termOf 38 rfl) (by rw [frV_0 hg hc62]; exact hq)
    · refine pv_lload (pc := 17) (i := 5) rfl (fm_dec dtX10_termOf 9 rfl) ?_
      refine pv_lconst (pc := 19) (v := 0) (by decide) (fm_dec dtX10_termOf 10 rfl) ?_
      refine pv_lcmp (pc := 20) (fm_dec dtX10_termOf 11 rfl) ?_
      refine pv_if_eq (pc := 21) 45 (by decide) (fm_dec dtX10_termOf 12 rfl) (fun hc21 => ?_) (fun hc21 => ?_)
      · have hu0 : u = 0 := (by have h9 := lcq.mp hc21; rw [h9] at h1; have h8 : (0 : Int64).toInt = 0 := (by decide); omega)
        have hg : oth.toInt = ((Nat.gcd a.toInt.toNat b.toInt.toNat : Nat) : Int) := (by rw [← hgc, hu0, Nat.gcd_zero_left]; exact h2)
        have hp9 : 0 < oth.toInt := (by omega)
        refine pv_lload (pc := 45) (i := 7) rfl (fm_dec dtX10_termOf 23 rfl) ?_
        refine pv_lconst (pc := 47) (v := 0) (by decide) (fm_dec dtX10_termOf 24 rfl) ?_
        refine pv_lcmp (pc := 48) (fm_dec dtX10_termOf 25 rfl) ?_
        refine pv_if_le (pc := 49) 57 (by decide) (fm_dec dtX10_termOf 26 rfl) (fun hc49 => by exfalso; exact lcp hp9 hc49) (fun _ => ?_)
        refine pv_lload (pc := 52) (i := 7) rfl (fm_dec dtX10_termOf 27 rfl) ?_
        refine pv_goto (pc := 54) 58 (by decide) (fm_dec dtX10_termOf 28 rfl) ?_
        refine pv_lstore (pc := 58) (i := 9) (by decide) rfl (fm_dec dtX10_termOf 30 rfl) ?_
        dsimp only [List.set_cons_zero, List.set_cons_succ]
        refine pv_iload (pc := 60) (i := 4) rfl (fm_dec dtX10_termOf 31 rfl) ?_
        refine pv_if_ne (pc := 62) 69 (by decide) (fm_dec dtX10_termOf 32 rfl) (fun hc62 => ?_) (fun hc62 => ?_)
        · refine pv_lloadn (pc := 69) (n := 2) 2 rfl rfl (fm_dec dtX10_termOf 35 rfl) ?_
          refine pv_lload (pc := 70) (i := 9) rfl (fm_dec dtX10_termOf 36 rfl) ?_
          refine pv_ldiv (pc := 72) (div_nz hp9) (fm_dec dtX10_termOf 37 rfl) ?_
          exact pv_lreturn (pc := 73) rfl (fm_dec dtX10_termOf 38 rfl) (by rw [frV_1 hg hc62]; exact hq)
        · refine pv_lloadn (pc := 65) (n := 0) 0 rfl rfl (fm_dec dtX10_termOf 33 rfl) ?_
          refine pv_goto (pc := 66) 70 (by decide) (fm_dec dtX10_termOf 34 rfl) ?_
          refine pv_lload (pc := 70) (i := 9) rfl (fm_dec dtX10_termOf 36 rfl) ?_
          refine pv_ldiv (pc := 72) (div_nz hp9) (fm_dec dtX10_termOf 37 rfl) ?_
          exact pv_lreturn (pc := 73) rfl (fm_dec dtX10_termOf 38 rfl) (by rw [frV_0 hg hc62]; exact hq)
      · refine pv_lload (pc := 24) (i := 7) rfl (fm_dec dtX10_termOf 13 rfl) ?_
        refine pv_lload (pc := 26) (i := 5) rfl (fm_dec dtX10_termOf 14 rfl) ?_
        refine pv_lrem (pc := 28) (fun e => hc21 (lcq.mpr e)) (fm_dec dtX10_termOf 15 rfl) ?_
        refine pv_lstore (pc := 29) (i := 10) (by decide) rfl (fm_dec dtX10_termOf 16 rfl) ?_
        dsimp only [List.set_cons_zero, List.set_cons_succ]
        refine pv_lload (pc := 31) (i := 5) rfl (fm_dec dtX10_termOf 17 rfl) ?_
        refine pv_lstore (pc := 33) (i := 7) (by decide) rfl (fm_dec dtX10_termOf 18 rfl) ?_
        dsimp only [List.set_cons_zero, List.set_cons_succ]
        refine pv_lload (pc := 35) (i := 10) rfl (fm_dec dtX10_termOf 19 rfl) ?_
        refine pv_lstore (pc := 37) (i := 5) (by decide) rfl (fm_dec dtX10_termOf 20 rfl) ?_
        dsimp only [List.set_cons_zero, List.set_cons_succ]
        refine pv_iincc (pc := 39) 9 1 (by decide) rfl (by decide) rfl (fm_dec dtX10_termOf 21 rfl) ?_
        dsimp only [List.set_cons_zero, List.set_cons_succ]
        refine pv_goto (pc := 42) 9 (by decide) (fm_dec dtX10_termOf 22 rfl) ?_
        have hne : ¬ one = 0 := (fun e => hc21 (lcq.mpr e))
        have hu := ge_1 h1 hne
        obtain ⟨k, rfl⟩ : ∃ k', k = k' + 1 := (by cases k with | zero => exact absurd (eu_0 hE hv) (by omega) | succ k => exact ⟨k, rfl⟩)
        rw [nI_succ1]
        exact ih k (by omega) (v % u) u (i + 1) _ _ _ _ (eu_s hE hu) hu (rem_n h2 h1 hu) h1 (by rw [eu_g]; exact hgc) (by omega)
set_option maxRecDepth 20000 in
theorem c_xterm {M : fmM} {Q : fmR → fmM → Prop} {a b : Int64} {p : Int32} (h0 : 0 ≤ a.toInt) (hb : 0 < b.toInt) (hq : Q (.inl (some (.long (frV a b p)))) M) : pvGood Tx 0 qX10_termOf [.long a, .long b, .int p] M Q := by
  refine pvGood_of (Nat.le_of_ble_eq_true rfl) ?_
  show pvEv Tx 0 qX10_termOf 0 [some (.long a), none, some (.long b), none, some (.int p), none, none, none, none, none, none, none] [] M Q
  refine pv_lloadn (pc := 0) (n := 0) 0 rfl rfl (fm_dec dtX10_termOf 0 rfl) ?_
  refine pv_lstore (pc := 1) (i := 5) (by decide) rfl (fm_dec dtX10_termOf 1 rfl) ?_
  dsimp only [List.set_cons_zero, List.set_cons_succ]
  refine pv_lloadn (pc := 3) (n := 2) 2 rfl rfl (fm_dec dtX10_termOf 2 rfl) ?_
  refine pv_lstore (pc := 4) (i := 7) (by decide) rfl (fm_dec dtX10_termOf 3 rfl) ?_
  dsimp only [List.set_cons_zero, List.set_cons_succ]
  refine pv_iconst (pc := 6) (v := 0) (by decide) (fm_dec dtX10_termOf 4 rfl) ?_
  refine pv_istore (pc := 7) (i := 9) (by decide) rfl (fm_dec dtX10_termOf 5 rfl) ?_
  dsimp only [List.set_cons_zero, List.set_cons_succ]
  exact xtm_loop hq 127 a.toInt.toNat b.toInt.toNat 0 _ _ _ _ (eu_st h0 hb) (by omega) (by omega) (by omega) rfl (by decide)
set_option maxRecDepth 20000 in
theorem mtm_loop {Q : fmR → fmM → Prop} {M : fmM} {a b : Int64} {p : Int32} (hq : Q (.inl (some (.long (frV a b p)))) M) : ∀ (k : Nat) (u v : Nat) (one oth : Int64) (v9 v10 : Option Value), euB k u v → 0 < v → one.toInt = (u : Int) → oth.toInt = (v : Int) → Nat.gcd u v = Nat.gcd a.toInt.toNat b.toInt.toNat → pvEv Tm 0 qX11_partOf 6 [some (.long a), none, some (.long b), none, some (.int p), some (.long oth), none, some (.long one), none, v9, v10] [] M Q := by
  intro k
  induction k using Nat.strongRecOn with
  | _ k ih =>
    intro u v one oth v9 v10 hE hv h1 h2 hgc
    refine pv_lload (pc := 6) (i := 7) rfl (fm_dec dtX11_partOf 4 rfl) ?_
    refine pv_lconst (pc := 8) (v := 0) (by decide) (fm_dec dtX11_partOf 5 rfl) ?_
    refine pv_lcmp (pc := 9) (fm_dec dtX11_partOf 6 rfl) ?_
    refine pv_if_eq (pc := 10) 31 (by decide) (fm_dec dtX11_partOf 7 rfl) (fun hc10 => ?_) (fun hc10 => ?_)
    · have hu0 : u = 0 := (by have h9 := lcq.mp hc10; rw [h9] at h1; have h8 : (0 : Int64).toInt = 0 := (by decide); omega)
      have hg : oth.toInt = ((Nat.gcd a.toInt.toNat b.toInt.toNat : Nat) : Int) := (by rw [← hgc, hu0, Nat.gcd_zero_left]; exact h2)
      have hp9 : 0 < oth.toInt := (by omega)
      refine pv_iload (pc := 31) (i := 4) rfl (fm_dec dtX11_partOf 17 rfl) ?_
      refine pv_if_ne (pc := 33) 43 (by decide) (fm_dec dtX11_partOf 18 rfl) (fun hc33 => ?_) (fun hc33 => ?_)
      · refine pv_lloadn (pc := 43) (n := 2) 2 rfl rfl (fm_dec dtX11_partOf 23 rfl) ?_
        refine pv_lload (pc := 44) (i := 5) rfl (fm_dec dtX11_partOf 24 rfl) ?_
        refine pv_ldiv (pc := 46) (div_nz hp9) (fm_dec dtX11_partOf 25 rfl) ?_
        exact pv_lreturn (pc := 47) rfl (fm_dec dtX11_partOf 26 rfl) (by rw [frV_1 hg hc33]; exact hq)
      · refine pv_lloadn (pc := 36) (n := 0) 0 rfl rfl (fm_dec dtX11_partOf 19 rfl) ?_
        refine pv_lload (pc := 37) (i := 5) rfl (fm_dec dtX11_partOf 20 rfl) ?_
        refine pv_ldiv (pc := 39) (div_nz hp9) (fm_dec dtX11_partOf 21 rfl) ?_
        refine pv_goto (pc := 40) 47 (by decide) (fm_dec dtX11_partOf 22 rfl) ?_
        exact pv_lreturn (pc := 47) rfl (fm_dec dtX11_partOf 26 rfl) (by rw [frV_0 hg hc33]; exact hq)
    · refine pv_lload (pc := 13) (i := 5) rfl (fm_dec dtX11_partOf 8 rfl) ?_
      refine pv_lload (pc := 15) (i := 7) rfl (fm_dec dtX11_partOf 9 rfl) ?_
      refine pv_lrem (pc := 17) (fun e => hc10 (lcq.mpr e)) (fm_dec dtX11_partOf 10 rfl) ?_
      refine pv_lstore (pc := 18) (i := 9) (by decide) rfl (fm_dec dtX11_partOf 11 rfl) ?_
      dsimp only [List.set_cons_zero, List.set_cons_succ]
      refine pv_lload (pc := 20) (i := 7) rfl (fm_dec dtX11_partOf 12 rfl) ?_
      refine pv_lstore (pc := 22) (i := 5) (by decide) rfl (fm_dec dtX11_partOf 13 rfl) ?_
      dsimp only [List.set_cons_zero, List.set_cons_succ]
      refine pv_lload (pc := 24) (i := 9) rfl (fm_dec dtX11_partOf 14 rfl) ?_
      refine pv_lstore (pc := 26) (i := 7) (by decide) rfl (fm_dec dtX11_partOf 15 rfl) ?_
      dsimp only [List.set_cons_zero, List.set_cons_succ]
      refine pv_goto (pc := 28) 6 (by decide) (fm_dec dtX11_partOf 16 rfl) ?_
      have hne : ¬ one = 0 := (fun e => hc10 (lcq.mpr e))
      have hu := ge_1 h1 hne
      obtain ⟨k, rfl⟩ : ∃ k', k = k' + 1 := (by cases k with | zero => exact absurd (eu_0 hE hv) (by omega) | succ k => exact ⟨k, rfl⟩)
      exact ih k (by omega) (v % u) u _ _ _ _ (eu_s hE hu) hu (rem_n h2 h1 hu) h1 (by rw [eu_g]; exact hgc)
set_option maxRecDepth 20000 in
theorem c_mterm {M : fmM} {Q : fmR → fmM → Prop} {a b : Int64} {p : Int32} (h0 : 0 ≤ a.toInt) (hb : 0 < b.toInt) (hq : Q (.inl (some (.long (frV a b p)))) M) : pvGood Tm 0 qX11_partOf [.long a, .long b, .int p] M Q := by
  refine pvGood_of (Nat.le_of_ble_eq_true rfl) ?_
  show pvEv Tm 0 qX11_partOf 0 [some (.long a), none, some (.long b), none, some (.int p), none, none, none, none, none, none] [] M Q
  refine pv_lloadn (pc := 0) (n := 2) 2 rfl rfl (fm_dec dtX11_partOf 0 rfl) ?_
  refine pv_lstore (pc := 1) (i := 5) (by decide) rfl (fm_dec dtX11_partOf 1 rfl) ?_
  dsimp only [List.set_cons_zero, List.set_cons_succ]
  refine pv_lloadn (pc := 3) (n := 0) 0 rfl rfl (fm_dec dtX11_partOf 2 rfl) ?_
  refine pv_lstore (pc := 4) (i := 7) (by decide) rfl (fm_dec dtX11_partOf 3 rfl) ?_
  dsimp only [List.set_cons_zero, List.set_cons_succ]
  exact mtm_loop hq 127 a.toInt.toNat b.toInt.toNat _ _ _ _ (eu_st h0 hb) (by omega) (by omega) (by omega) rfl
theorem frV_z {p : Int32} : frV 0 1 p = frV 0 64 p := by
  unfold frV
  by_cases e : p = 0
  · rw [if_pos e, if_pos e]
    decide
  · rw [if_neg e, if_neg e]
    decide
end
-- P 18yh
section
-- QUERIES
theorem glueV {P : Prop} {v : fmR} {r r2 : fmR} {M : fmM} (hv : ∃ x, v = .inl x) (h : (P ∧ r = v) ∨ (¬ P ∧ r = .inr fmIAE)) (h2 : (P ∧ r2 = v ∧ M.1 0 0 = 0) ∨ (¬ P ∧ M.1 0 0 = 1)) : mtI 1 0 r r2 M := by
  obtain ⟨x, rfl⟩ := hv
  rcases h with ⟨p, rfl⟩ | ⟨p, rfl⟩
  · rcases h2 with ⟨_, e, t⟩ | ⟨q, _⟩
    · exact ⟨t, e⟩
    · exact absurd p q
  · rcases h2 with ⟨q, _⟩ | ⟨_, t⟩
    · exact absurd q p
    · exact ⟨fun _ => t, fun h => absurd h (by decide)⟩
/-- all that the first side's queries read -/
def xAq (M : fmM) (D : dD) (cs : tC) (S : aS) : Prop := dOk D ∧ xdw 3 M D ∧ lwX M cs ∧ xst M D S ∧ stO D S
theorem xAq.low {M M' : fmM} {D : dD} {cs : tC} {S : aS} (h : xAq M D cs S) (hk : ∀ k j, k ≠ 26 → M'.1 k j = M.1 k j) (h2 : M'.2 = M.2) : xAq M' D cs S := ⟨h.1, h.2.1.of (fun k j a b => hk k j (by omega)), h.2.2.1.f (hk 23 3 (by decide)) (fun i => hk 24 i (by decide)), h.2.2.2.1.low hk h2, h.2.2.2.2⟩
/-- and the other's -/
def mAq (M : fmM) (D : dD) (cs : tC) (S : aS) : Prop := dOk D ∧ mdw M D ∧ lwM M cs ∧ (cs = [] ∨ dpB 23 0 cs = some 1) ∧ mst M D S ∧ stO D S
theorem mAq.low {M M' : fmM} {D : dD} {cs : tC} {S : aS} (h : mAq M D cs S) (hk : ∀ k j, k ≠ 0 → k ≠ 5 → k ≠ 6 → M'.1 k j = M.1 k j) (h0 : M'.1 0 17 = M.1 0 17) : mAq M' D cs S := ⟨h.1, h.2.1.k h.1 (fun k j a => hk k j (by omega) (by omega) (by omega)), h.2.2.1.f h0 (fun k j a => hk k j (by omega) (by omega) (by omega)), h.2.2.2.1, h.2.2.2.2.1.of (fun j => hk 7 j (by decide) (by decide) (by decide)), h.2.2.2.2.2⟩
theorem mAq.z {M : fmM} {D : dD} {cs : tC} {S : aS} {x : Int32} (h : mAq M D cs S) : mAq (fmI M 0 0 x) D cs S := h.low (fun k j a _ _ => by rw [fmI_k _ _ a]) (by rw [fmI_j _ _ (by decide)])
theorem inL.n {D : dD} {x : Int32} (hD : dOk D) (h : inL D x) : ∃ i : Nat, i < D.1 ∧ x = nI i ∧ x.toInt.toNat = i := by
  have d8 := hD.1
  obtain ⟨h1, h2⟩ := h
  exact ⟨x.toInt.toNat, by omega, nI_is (by omega) (by omega), rfl⟩
/-- the first n of them, as bits -/
def bS (F : Nat → Bool) : Nat → Nat
  | 0 => 0
  | n + 1 => if F n = true then bS F n ||| 1 <<< n else bS F n
theorem bS_t {F : Nat → Bool} {n : Nat} (h : F n = true) : bS F (n + 1) = bS F n ||| 1 <<< n := if_pos h
theorem bS_n {F : Nat → Bool} {n : Nat} (h : F n = false) : bS F (n + 1) = bS F n := if_neg (by rw [h]; decide)
theorem or8k : ∀ w, w < 256 → ∀ k, k < 8 → w ||| 1 <<< k < 256 := by decide +kernel
theorem bS_8 {F : Nat → Bool} : ∀ n, n ≤ 8 → bS F n < 256 := by
  intro n
  induction n with
  | zero => intro _; exact (by decide : (0 : Nat) < 256)
  | succ n ih =>
    intro hn
    have h1 := ih (by omega)
    cases h : F n with
    | false =>
      rw [bS_n h]
      exact h1
    | true =>
      rw [bS_t h]
      exact or8k _ h1 n (by omega)
theorem ag_b {D : dD} {S : aS} {i : Nat} (ho : stO D S) (hi : i < D.1) : -1 ≤ S.2 i ∧ S.2 i ≤ 240 := by
  have h1 := ho.2.2.2.2.2.2.1 i hi
  have h2 := ho.1
  omega
/-- the piece's age, as it stands on the first side -/
theorem ag_x {M : fmM} {D : dD} {S : aS} {i : Nat} (hs : xst M D S) (hi : i < D.1) : (M.1 48 i).toInt = S.2 i := hs.2.2.2.2.2.2 i hi
theorem ag_n {M : fmM} {D : dD} {S : aS} {i : Nat} (hs : xst M D S) (ho : stO D S) (hi : i < D.1) (h : ¬ M.1 48 i = -1) : M.1 48 i = nI (S.2 i).toNat ∧ ¬ S.2 i = -1 := by
  have h1 := ag_x hs hi
  have h2 := ag_b ho hi
  have zm : (-1 : Int32).toInt = -1 := by decide
  have h3 : ¬ S.2 i = -1 := fun e => h (i32_ext (by omega))
  exact ⟨nI_is (by omega) (by omega), h3⟩
theorem ag_m {M : fmM} {D : dD} {S : aS} {i : Nat} (hs : xst M D S) (hi : i < D.1) (h : M.1 48 i = -1) : S.2 i = -1 := by
  have h1 := ag_x hs hi
  rw [h] at h1
  exact h1.symm.trans (by decide)
end
