-- WORKS DONE, on both sides
theorem spSt_z {tx : tX} {l : Nat} : ∀ (f md o b p : Nat) (ss : tS) (q : Nat), spSt tx l f md o b p = .inr (ss, q) → ∀ s ∈ ss, s.1 = 3 → s.2.1 = 0 := by
  intro f
  induction f with
  | zero => intro md o b p ss q h; cases md <;> cases h
  | succ f ih =>
    intro md o b p ss q h
    cases md with
    | zero =>
      have h : spOneS tx l (fun q => spSt tx l f 1 (o + 1) (b + 1) q) o b p = .inr (ss, q) := h
      unfold spOneS at h
      split at h
      · cases h
      · rename_i k hk
        split at h
        · split at h
          · cases h
          · unfold spAg at h
            obtain ⟨v, q1, e1, h⟩ := spBind_ok h
            obtain ⟨u2, q2, e2, h⟩ := spBind_ok h
            obtain ⟨s3, q3, e3, h⟩ := spBind_ok h
            obtain ⟨u4, q4, e4, h⟩ := spBind_ok h
            obtain ⟨u5, q5, e5, h⟩ := spBind_ok h
            cases h
            intro s hs h3
            rcases List.mem_cons.mp hs with rfl | hs
            · exact absurd (show (4 : Nat) = 3 from h3) (by decide)
            · exact ih _ _ _ _ _ _ e3 s hs h3
        · split at h
          · unfold spWk at h
            obtain ⟨u2, q2, e2, h⟩ := spBind_ok h
            cases h
            intro s hs h3
            rcases List.mem_cons.mp hs with rfl | hs
            · rfl
            · cases hs
          · rename_i h4 hn3
            unfold spSi at h
            obtain ⟨v, q1, e1, h⟩ := spBind_ok h
            obtain ⟨u2, q2, e2, h⟩ := spBind_ok h
            cases h
            intro s hs h3
            rcases List.mem_cons.mp hs with rfl | hs
            · exact absurd h3 hn3
            · cases hs
    | succ md =>
      have h : (if tx p = 93 then .inr ([], p) else spBind (spSt tx l f 0 o b p) fun ss q => spBind (spSt tx l f 1 o (b + ss.length) (sk tx q)) fun ts q => .inr (ss ++ ts, q)) = (.inr (ss, q) : tR tS) := h
      split at h
      · cases h
        intro s hs
        cases hs
      · obtain ⟨s1, q1, e1, h⟩ := spBind_ok h
        obtain ⟨s2, q2, e2, h⟩ := spBind_ok h
        cases h
        intro s hs h3
        rcases List.mem_append.mp hs with hs | hs
        · exact ih _ _ _ _ _ _ e1 s hs h3
        · exact ih _ _ _ _ _ _ e2 s hs h3
theorem wkL_z {tx : tX} {n l : Nat} : ∀ (f b p : Nat) (ss : tS), wkL tx n l f b p = .inr ss → ∀ s ∈ ss, s.1 = 3 → s.2.1 = 0 := by
  intro f
  induction f with
  | zero => intro b p ss h; cases h
  | succ f ih =>
    intro b p ss h
    simp only [wkL] at h
    split at h
    · cases h
      intro s hs
      cases hs
    · split at h
      · cases h
      · rename_i s1 q1 e1
        split at h
        · cases h
        · rename_i s2 e2
          cases h
          intro s hs h3
          rcases List.mem_append.mp hs with hs | hs
          · exact spSt_z _ _ _ _ _ _ _ e1 s hs h3
          · exact ih _ _ _ e2 s hs h3
theorem spWork_nu {tx : tX} {n : Nat} {D : dD} {ss : tS} (ht : tOk tx n) (hn : n ≤ 150) (hD : D.1 ≤ 8) (h : spWork tx n D.1 = .inr ss) : nuO D ss ∧ ss.length ≤ 75 := by
  have hs0 : sk tx 0 ≤ n := sp_le tB_1 ht (Nat.zero_le _)
  have g := wkL_ok ht 700 0 (sk tx 0) ss hs0 h
  refine ⟨⟨by omega, fun s hs => ?_⟩, by omega⟩
  obtain ⟨i, hi, e⟩ := List.getElem_of_mem hs
  have g1 := g.1 i s (by rw [List.getElem?_eq_getElem hi, e])
  refine ⟨g1.2.1, ?_⟩
  by_cases h3 : s.1 < 3
  · have := g1.2.1 h3
    omega
  · by_cases h4 : s.1 = 4
    · exact g1.2.2.1 h4
    · have h0 := wkL_z 700 0 (sk tx 0) ss h s hs (by have := g1.1; omega)
      omega
/-- what a work leaves on the first side: w works were there -/
def wkK (w : Nat) (M M' : fmM) : Prop := (∀ k, (2 ≤ k ∧ k ≤ 27 ∧ k ≠ 26) ∨ (49 ≤ k ∧ k < 190 ∧ k ≠ 50 + w ∧ k ≠ 66 + w) → ∀ j, M'.1 k j = M.1 k j ∧ M'.2 k j = M.2 k j) ∧ M'.1 0 13 = M.1 0 13 ∧ smS (50 + w) (66 + w) 47 48 M M' ∧ M'.1 46 2 = M.1 46 2 + 1
theorem rd_k {M : fmM} {nn : Int32} {k : Nat} (h1 : k ≠ 1) (h2 : k ≠ 28) : (rdM (opM M nn)).1 k = M.1 k := by
  unfold rdM opM
  rw [fmI_k _ _ h2, fmI_k _ _ h2, fmI_k _ _ h2, fmI_k _ _ h2, fmI_k _ _ h1, fmI_k _ _ h1, fmI_k _ _ h1, fmI_k _ _ h1, fmI_k _ _ h1]
theorem wo_38 {M M' : fmM} {nn : Int32} (h : wFr 0 (rdM (opM M nn)) M') : ∀ k, k ≠ 1 → ¬ (28 ≤ k ∧ k ≤ 31) → ∀ j, M'.1 k j = M.1 k j ∧ M'.2 k j = M.2 k j := fun k h1 h2 j => ⟨by rw [h.1 k j h1 (by omega) (by omega), rd_k h1 (by omega)], h.2.1 k j h1 h2⟩
theorem wo_K {M M38 M59 M86 : fmM} {nn x y : Int32} {w : Nat} (hw : w < 16) (f38 : wFr 0 (rdM (opM M nn)) M38) (c59 : cpR (50 + w) (66 + w) 47 48 M38 M59) (f86 : pFr (fmI M59 46 2 (M38.1 46 2 + 1)) M86) : wkK w M (fmI (fmI M86 0 14 x) 34 5 y) := by
  have e38 := wo_38 f38
  have e86 : ∀ k, k ≠ 0 → k ≠ 26 → k ≠ 28 → k ≠ 34 → k ≠ 46 → k ≠ 47 → k ≠ 48 → ∀ j, (fmI (fmI M86 0 14 x) 34 5 y).1 k j = M59.1 k j ∧ (fmI (fmI M86 0 14 x) 34 5 y).2 k j = M59.2 k j := fun k a b c d e f g j => ⟨by rw [fmI_k _ _ d, fmI_k _ _ a, f86.1 k j b c f g, fmI_k _ _ e], f86.2 k j f⟩
  refine ⟨fun k hk j => ?_, ?_, ?_, ?_⟩
  · have h1 := e86 k (by omega) (by omega) (by omega) (by omega) (by omega) (by omega) (by omega) j
    have h2 := e38 k (by omega) (by omega) j
    exact ⟨h1.1.trans ((c59.2.1 k j (by omega) (by omega)).trans h2.1), h1.2.trans ((c59.2.2 k j (by omega)).trans h2.2)⟩
  · rw [fmI_k _ _ (by decide), fmI_j _ _ (by decide), f86.1 0 13 (by decide) (by decide) (by decide) (by decide), fmI_k _ _ (by decide), c59.2.1 0 13 (by omega) (by omega)]
    exact (e38 0 (by decide) (by decide) 13).1
  · exact (c59.1.src (fun j => (e38 47 (by decide) (by decide) j).1) (fun j => (e38 48 (by decide) (by decide) j).1) (e38 47 (by decide) (by decide) 6).2).fr (fun j => (e86 _ (by omega) (by omega) (by omega) (by omega) (by omega) (by omega) (by omega) j).1) (fun j => (e86 _ (by omega) (by omega) (by omega) (by omega) (by omega) (by omega) (by omega) j).1) (e86 _ (by omega) (by omega) (by omega) (by omega) (by omega) (by omega) (by omega) 6).2
  · rw [fmI_k _ _ (by decide), fmI_k _ _ (by decide), f86.1 46 2 (by decide) (by decide) (by decide) (by decide), fmI_s, (e38 46 (by decide) (by decide) 2).1]
/-- told, law and state, ahead of the steps -/
theorem wo_A {M M38 M59 : fmM} {D : dD} {cs : tC} {S : aS} {nn : Int32} {w : Nat} (hX : xdw 3 M D) (hL : lwX M cs) (hs : xst M D S) (ho : stO D S) (f38 : wFr 0 (rdM (opM M nn)) M38) (c59 : cpR (50 + w) (66 + w) 47 48 M38 M59) : xAll (fmI M59 46 2 (M38.1 46 2 + 1)) D cs (S, 0, 0, 0) := by
  have e38 := wo_38 f38
  have e59 : ∀ k, k < 49 → k ≠ 1 → k ≠ 46 → ¬ (28 ≤ k ∧ k ≤ 31) → ∀ j, (fmI M59 46 2 (M38.1 46 2 + 1)).1 k j = M.1 k j ∧ (fmI M59 46 2 (M38.1 46 2 + 1)).2 k j = M.2 k j := fun k a b c d j => ⟨by rw [fmI_k _ _ c, c59.2.1 k j (by omega) (by omega)]; exact (e38 k b d j).1, (c59.2.2 k j (by omega)).trans (e38 k b d j).2⟩
  have e28 : ∀ j, j = 4 ∨ j = 5 ∨ j = 6 → (fmI M59 46 2 (M38.1 46 2 + 1)).1 28 j = 0 := fun j hj => by
    rw [fmI_k _ _ (by decide), c59.2.1 28 j (by omega) (by omega), f38.1 28 j (by decide) (by omega) (by omega)]
    rcases hj with rfl | rfl | rfl <;> rfl
  refine ⟨hX.of (fun k j a b => (e59 k (by omega) (by omega) (by omega) (by omega) j).1), hL.f (e59 23 (by decide) (by decide) (by decide) (by decide) 3).1 (fun i => (e59 24 (by decide) (by decide) (by decide) (by decide) i).1), hs.of (fun k j a => (e59 k (by omega) (by omega) (by omega) (by omega) j).1) (e59 47 (by decide) (by decide) (by decide) (by decide) 6).2, ho, by rw [e28 4 (Or.inl rfl)]; exact z_i, by rw [e28 5 (Or.inr (Or.inl rfl))]; exact z_i, by rw [e28 6 (Or.inr (Or.inr rfl))]; exact z_i, Nat.le_refl _, Nat.zero_le _⟩
/-- a work, all of it -/
def goW (D : dD) (cs : tC) (ss : tS) (S : aS) : gR := goL D cs 201 0 ss (S, 0, 0, 0)
theorem seg_0 {ss : tS} : seg ss 0 ss := fun i hi => by rw [Nat.zero_add]
set_option maxRecDepth 20000 in
theorem c_xwoS {M : fmM} {Q : fmR → fmM → Prop} {T : Nat → tX} {nn : Int32} {D : dD} {cs : tC} {S : aS} {w : Nat} (hI : scInv Tx invX M) (hT : txF M T) (hD : dOk D) (hX : xdw 3 M D) (hL : lwX M cs) (hs : xst M D S) (ho : stO D S) (hw : (M.1 46 2).toInt = (w : Int)) (h16 : w ≤ 16) (hrf : ¬ txP nn 150 (M.1 1 1).toInt → Q (.inr fmIAE) (fmI M 0 16 (M.1 0 16 + 1))) (hful : txP nn 150 (M.1 1 1).toInt → w = 16 → Q (.inl (some (.int (-20)))) (opM M nn)) (hbad : ∀ (n k a : Nat) (r : Int32) (M' : fmM), nn.toInt = (n : Int) → txP nn 150 (M.1 1 1).toInt → w < 16 → spWork (T n) n D.1 = .inl (k, a) → r.toInt = (k : Int) - 10 → wFr 0 (rdM (opM M nn)) M' → Q (.inl (some (.int r))) M') (hok : ∀ (n : Nat) (ss : tS) (r : Int32) (M' : fmM), nn.toInt = (n : Int) → txP nn 150 (M.1 1 1).toInt → w < 16 → spWork (T n) n D.1 = .inr ss → r.toInt = ((goW D cs ss S).2.2.1 : Int) → xst M' D (goW D cs ss S).1 → stO D (goW D cs ss S).1 → (M'.1 0 14).toInt = ((goW D cs ss S).2.2.2 : Int) → wkK w M M' → Q (.inl (some (.int r))) M') : pvGood Tx 214 qX10_work [.ref 0, .int nn] M Q := by
  refine pvGood_of (Nat.le_of_ble_eq_true rfl) ?_
  show pvEv Tx 214 qX10_work 0 [some (.ref 0), some (.int nn)] [] M Q
  refine pv_aloadn (pc := 0) (n := 0) 0 rfl rfl (fm_dec dtX10_work 0 rfl) ?_
  refine pv_iloadn (pc := 1) (n := 1) 1 rfl rfl (fm_dec dtX10_work 1 rfl) ?_
  refine pv_sipush (pc := 2) (v := 150) (by decide) (fm_dec dtX10_work 2 rfl) ?_
  refine pv_invV2 (k := 0) (d' := 1) (pc := 5) pcv_X10_108 (by decide) rfl (Nat.le_of_ble_eq_true rfl) (by decide) (fm_dec dtX10_work 3 rfl) ?_
  refine c_openT (fun h5 => ?_) (fun h5 => ?_)
  · refine pv_then0 ?_
    have h56 : nn.toInt ≤ 150 := h5.2.1
    obtain ⟨n, hn⟩ : ∃ n : Nat, nn.toInt = (n : Int) := ⟨nn.toInt.toNat, by have := h5.1; omega⟩
    have hn9 : n ≤ 150 := (by omega)
    have hI5 := inv_open (n := nn) hI h5.1 (by omega)
    have hT9 := hT n (by have := h5.2.2; omega)
    have hS := op_S hn hT9.1 hT9.2
    have hf5 : (opM M nn).1 1 4 = 0 := rfl
    have z16 : (16 : Int32).toInt = 16 := (by decide)
    have hw5 : ((opM M nn).1 46 2).toInt = (w : Int) := hw
    refine pv_aloadn (pc := 8) (n := 0) 0 rfl rfl (fm_dec dtX10_work 4 rfl) ?_
    refine pv_getR (k := 0) (j := 9) (ci := 10) (pc := 9) 46 rfl (by decide) pfl_X10_75 (by decide) rfl (by decide) (fm_dec dtX10_work 5 rfl) ?_
    refine pv_getI (k := 46) (j := 2) (ci := 5) (pc := 12) pfl_X10_126 (by decide) rfl (by decide) (fm_dec dtX10_work 6 rfl) ?_
    refine pv_bipush (pc := 15) (v := 16) (by decide) (fm_dec dtX10_work 7 rfl) ?_
    refine pv_icmp_lt (pc := 17) 23 (by decide) (fm_dec dtX10_work 8 rfl) (fun hc17 => ?_) (fun hc17 => ?_)
    · have hlt : w < 16 := (by have h9 := hc17; rw [sc_lt] at h9; omega)
      refine pv_aloadn (pc := 23) (n := 0) 0 rfl rfl (fm_dec dtX10_work 11 rfl) ?_
      refine pv_getR (k := 0) (j := 5) (ci := 10) (pc := 24) 28 rfl (by decide) pfl_X10_43 (by decide) rfl (by decide) (fm_dec dtX10_work 12 rfl) ?_
      refine pv_aloadn (pc := 27) (n := 0) 0 rfl rfl (fm_dec dtX10_work 13 rfl) ?_
      refine pv_getR (k := 0) (j := 0) (ci := 10) (pc := 28) 1 rfl (by decide) pfl_X10_12 (by decide) rfl (by decide) (fm_dec dtX10_work 14 rfl) ?_
      refine pv_aloadn (pc := 31) (n := 0) 0 rfl rfl (fm_dec dtX10_work 15 rfl) ?_
      refine pv_getR (k := 0) (j := 1) (ci := 10) (pc := 32) 3 rfl (by decide) pfl_X10_19 (by decide) rfl (by decide) (fm_dec dtX10_work 16 rfl) ?_
      refine pv_getI (k := 3) (j := 9) (ci := 8) (pc := 35) pfl_X10_138 (by decide) rfl (by decide) (fm_dec dtX10_work 17 rfl) ?_
      refine pv_invV2 (k := 28) (d' := 27) (pc := 38) pcv_X10_142 (by decide) rfl (Nat.le_of_ble_eq_true rfl) (by decide) (fm_dec dtX10_work 18 rfl) ?_
      refine c_wread (M := opM M nn) (l := D.1) hX.1.1 hD.1 hS hf5 hI5 hn9 (fun M38 ss q38 e38 k38 => ?_) (fun M38 kb ab e38 b38 => ?_)  
      · refine pv_then1 ?_
        refine pv_if_ne (pc := 41) 55 (by decide) (fm_dec dtX10_work 19 rfl) (fun _ => ?_) (fun hc41 => by exfalso; revert hc41; decide)
        have hw38 : (M38.1 46 2).toInt = (w : Int) := (by rw [(wo_38 k38.2.2.2.2.2 46 (by decide) (by decide) 2).1]; exact hw)
        have hN := spWork_nu hT9.1 hn9 hD.1 e38
        obtain ⟨g9, hg9⟩ := spWork_wn e38
        refine pv_aloadn (pc := 55) (n := 0) 0 rfl rfl (fm_dec dtX10_work 26 rfl) ?_
        refine pv_getR (k := 0) (j := 9) (ci := 10) (pc := 56) 46 rfl (by decide) pfl_X10_75 (by decide) rfl (by decide) (fm_dec dtX10_work 27 rfl) ?_
        refine pv_invV0 (k := 46) (d' := 1) (pc := 59) pcv_X10_145 (by decide) rfl (Nat.le_of_ble_eq_true rfl) (by decide) (fm_dec dtX10_work 28 rfl) ?_
        refine c_keepS hw38 hlt (fun M59 c59 => ?_) 
        refine pv_then0 ?_
        have hA9 := wo_A hX hL hs ho k38.2.2.2.2.2 c59
        have hW9 : wRep (fmI M59 46 2 (M38.1 46 2 + 1)) 0 ss := (fun i c hi => by rw [fmI_k _ _ (by decide), fmI_k _ _ (by decide), fmI_k _ _ (by decide), c59.2.1 29 _ (by omega) (by omega), c59.2.1 30 _ (by omega) (by omega), c59.2.1 31 _ (by omega) (by omega)]; exact k38.2.2.2.2.1 i c hi)
        have hz9 : ((fmI M59 46 2 (M38.1 46 2 + 1)).1 28 3).toInt = ((0 + ss.length : Nat) : Int) := (by rw [fmI_k _ _ (by decide), c59.2.1 28 3 (by omega) (by omega)]; exact k38.2.2.2.1)
        refine pv_aloadn (pc := 62) (n := 0) 0 rfl rfl (fm_dec dtX10_work 29 rfl) ?_
        refine pv_getR (k := 0) (j := 5) (ci := 10) (pc := 63) 28 rfl (by decide) pfl_X10_43 (by decide) rfl (by decide) (fm_dec dtX10_work 30 rfl) ?_
        refine pv_aloadn (pc := 66) (n := 0) 0 rfl rfl (fm_dec dtX10_work 31 rfl) ?_
        refine pv_getR (k := 0) (j := 6) (ci := 10) (pc := 67) 32 rfl (by decide) pfl_X10_52 (by decide) rfl (by decide) (fm_dec dtX10_work 32 rfl) ?_
        refine pv_aloadn (pc := 70) (n := 0) 0 rfl rfl (fm_dec dtX10_work 33 rfl) ?_
        refine pv_getR (k := 0) (j := 9) (ci := 10) (pc := 71) 46 rfl (by decide) pfl_X10_75 (by decide) rfl (by decide) (fm_dec dtX10_work 34 rfl) ?_
        refine pv_getR (k := 46) (j := 0) (ci := 5) (pc := 74) 47 rfl (by decide) pfl_X10_90 (by decide) rfl (by decide) (fm_dec dtX10_work 35 rfl) ?_
        refine pv_iconst (pc := 77) (v := 0) (by decide) (fm_dec dtX10_work 36 rfl) ?_
        refine pv_aloadn (pc := 78) (n := 0) 0 rfl rfl (fm_dec dtX10_work 37 rfl) ?_
        refine pv_getR (k := 0) (j := 5) (ci := 10) (pc := 79) 28 rfl (by decide) pfl_X10_43 (by decide) rfl (by decide) (fm_dec dtX10_work 38 rfl) ?_
        refine pv_getI (k := 28) (j := 3) (ci := 9) (pc := 82) pfl_X10_148 (by decide) rfl (by decide) (fm_dec dtX10_work 39 rfl) ?_
        refine pv_iconst (pc := 85) (v := 0) (by decide) (fm_dec dtX10_work 40 rfl) ?_
        refine pv_invV5 (k := 28) (d' := (12 + 201)) (pc := 86) pcv_X10_151 (by decide) rfl (Nat.le_of_ble_eq_true rfl) (by decide) (fm_dec dtX10_work 41 rfl) ?_
        refine (xp_E (cs := cs) hD hN.1 201).go (a := 0) (o := 0) hA9 hW9 seg_0 (by omega) hg9 (by decide) (by decide) hz9 (by decide) (by show 200 - 0 < 201; decide) (fun M86 h86 f86 => ?_) 
        refine pv_then0 ?_
        refine pv_aloadn (pc := 89) (n := 0) 0 rfl rfl (fm_dec dtX10_work 42 rfl) ?_
        refine pv_aloadn (pc := 90) (n := 0) 0 rfl rfl (fm_dec dtX10_work 43 rfl) ?_
        refine pv_getR (k := 0) (j := 5) (ci := 10) (pc := 91) 28 rfl (by decide) pfl_X10_43 (by decide) rfl (by decide) (fm_dec dtX10_work 44 rfl) ?_
        refine pv_getI (k := 28) (j := 6) (ci := 9) (pc := 94) pfl_X10_155 (by decide) rfl (by decide) (fm_dec dtX10_work 45 rfl) ?_
        refine pv_putI (k := 0) (j := 14) (ci := 10) (pc := 97) pfl_X10_132 (by decide) rfl (by decide) (fm_dec dtX10_work 46 rfl) ?_
        refine pv_aloadn (pc := 100) (n := 0) 0 rfl rfl (fm_dec dtX10_work 47 rfl) ?_
        refine pv_getR (k := 0) (j := 7) (ci := 10) (pc := 101) 34 rfl (by decide) pfl_X10_61 (by decide) rfl (by decide) (fm_dec dtX10_work 48 rfl) ?_
        refine pv_invV0 (k := 34) (d' := 0) (pc := 104) pcv_X10_135 (by decide) rfl (Nat.le_of_ble_eq_true rfl) (by decide) (fm_dec dtX10_work 49 rfl) ?_
        refine c_fgt ?_
        refine pv_then0 ?_
        refine pv_aloadn (pc := 107) (n := 0) 0 rfl rfl (fm_dec dtX10_work 50 rfl) ?_
        refine pv_getR (k := 0) (j := 5) (ci := 10) (pc := 108) 28 rfl (by decide) pfl_X10_43 (by decide) rfl (by decide) (fm_dec dtX10_work 51 rfl) ?_
        refine pv_getI (k := 28) (j := 5) (ci := 9) (pc := 111) pfl_X10_158 (by decide) rfl (by decide) (fm_dec dtX10_work 52 rfl) ?_
        exact pv_ireturn (pc := 114) rfl (fm_dec dtX10_work 53 rfl) (hok n ss _ _ hn h5 hlt e38 h86.2.2.2.2.2.1 (h86.2.2.1.of (fun k j a => by rw [fmI_k _ _ (by omega), fmI_k _ _ (by omega)]) rfl) h86.2.2.2.1 (by rw [fmI_k _ _ (by decide), fmI_s]; exact h86.2.2.2.2.2.2.1) (wo_K hlt k38.2.2.2.2.2 c59 f86))
      · refine pv_then1 ?_
        refine pv_if_ne (pc := 41) 55 (by decide) (fm_dec dtX10_work 19 rfl) (fun hc41 => by exfalso; revert hc41; decide) (fun _ => ?_)
        refine pv_aloadn (pc := 44) (n := 0) 0 rfl rfl (fm_dec dtX10_work 20 rfl) ?_
        refine pv_getR (k := 0) (j := 0) (ci := 10) (pc := 45) 1 rfl (by decide) pfl_X10_12 (by decide) rfl (by decide) (fm_dec dtX10_work 21 rfl) ?_
        refine pv_getI (k := 1) (j := 4) (ci := 7) (pc := 48) pfl_X10_116 (by decide) rfl (by decide) (fm_dec dtX10_work 22 rfl) ?_
        refine pv_bipush (pc := 51) (v := 10) (by decide) (fm_dec dtX10_work 23 rfl) ?_
        refine pv_isub (pc := 53) (fm_dec dtX10_work 24 rfl) ?_
        exact pv_ireturn (pc := 54) rfl (fm_dec dtX10_work 25 rfl) (hbad n kb ab _ M38 hn h5 hlt e38 (law_r b38.1 (by have h9 : (M38.1 1 4).toInt ≤ 3 := (b38.2.2.2.1.1 1 4 (by decide)).2; have h8 := b38.1; omega)) b38.2.2.2.2)
    · refine pv_bipush (pc := 20) (v := (-20)) (by decide) (fm_dec dtX10_work 9 rfl) ?_
      exact pv_ireturn (pc := 22) rfl (fm_dec dtX10_work 10 rfl) (hful h5 (by have h9 := hc17; rw [sc_lt] at h9; omega))
  · refine pv_thenX ?_
    exact hrf h5
set_option maxRecDepth 20000 in
theorem wk_o1S {Q : fmR → fmM → Prop} {M : fmM} {nn : Int32} (hf : ¬ M.1 0 5 = 0) (hq : pvEv Tm 214 qX11_work 101 [some (.ref 0), some (.int nn)] [] M Q) : pvEv Tm 214 qX11_work 72 [some (.ref 0), some (.int nn)] [] M Q := by
  refine pv_aloadn (pc := 72) (n := 0) 0 rfl rfl (fm_dec dtX11_work 40 rfl) ?_
  refine pv_getI (k := 0) (j := 5) (ci := 11) (pc := 73) pfl_X11_117 (by decide) rfl (by decide) (fm_dec dtX11_work 41 rfl) ?_
  refine pv_if_ne (pc := 76) 101 (by decide) (fm_dec dtX11_work 42 rfl) (fun _ => ?_) (fun hc76 => by exfalso; exact hf hc76)
  exact hq
set_option maxRecDepth 20000 in
theorem wk_loopS {tx : tX} {n l : Nat} {nn : Int32} {Q : fmR → fmM → Prop} : ∀ (f b p : Nat) (M : fmM), srPre M tx n p 0 b l → (∀ a, ¬ wkL tx n l f b p = .inl (9, a)) → (∀ (M' : fmM) (ss : tS) (q : Nat), wkL tx n l f b p = .inr ss → srOk M M' tx n q b ss → pvEv Tm 214 qX11_work 101 [some (.ref 0), some (.int nn)] [] M' Q) → (∀ (M' : fmM) (k a : Nat), wkL tx n l f b p = .inl (k, a) → srBad M M' tx n k a b → pvEv Tm 214 qX11_work 101 [some (.ref 0), some (.int nn)] [] M' Q) → pvEv Tm 214 qX11_work 72 [some (.ref 0), some (.int nn)] [] M Q := by
  intro f
  induction f with
  | zero => intro b p M hP hne hok hbad; exact absurd rfl (hne 0)
  | succ f ih =>
    intro b p M hP hne hok hbad
    refine pv_aloadn (pc := 72) (n := 0) 0 rfl rfl (fm_dec dtX11_work 40 rfl) ?_
    refine pv_getI (k := 0) (j := 5) (ci := 11) (pc := 73) pfl_X11_117 (by decide) rfl (by decide) (fm_dec dtX11_work 41 rfl) ?_
    refine pv_if_ne (pc := 76) 101 (by decide) (fm_dec dtX11_work 42 rfl) (fun hc76 => by exfalso; exact hc76 hP.2.1) (fun _ => ?_)
    refine pv_aloadn (pc := 79) (n := 0) 0 rfl rfl (fm_dec dtX11_work 43 rfl) ?_
    refine pv_getI (k := 0) (j := 4) (ci := 11) (pc := 80) pfl_X11_110 (by decide) rfl (by decide) (fm_dec dtX11_work 44 rfl) ?_
    refine pv_aloadn (pc := 83) (n := 0) 0 rfl rfl (fm_dec dtX11_work 45 rfl) ?_
    refine pv_getI (k := 0) (j := 2) (ci := 11) (pc := 84) pfl_X11_107 (by decide) rfl (by decide) (fm_dec dtX11_work 46 rfl) ?_
    refine pv_icmp_ge (pc := 87) 101 (by decide) (fm_dec dtX11_work 47 rfl) (fun hc87 => ?_) (fun hc87 => ?_)
    · exact hok M [] p (wkL_0 (by rw [sc_le, hP.1.1, hP.1.2.1] at hc87; omega)) (srOk.nil hP)
    · have hpn : ¬ n ≤ p := (by rw [sc_le, hP.1.1, hP.1.2.1] at hc87; omega)
      refine pv_aloadn (pc := 90) (n := 0) 0 rfl rfl (fm_dec dtX11_work 48 rfl) ?_
      refine pv_invV0 (k := 0) (d' := (5 + (6 - 0))) (pc := 91) pcv_X11_253 (by decide) rfl (Nat.le_of_ble_eq_true rfl) (by omega) (fm_dec dtX11_work 49 rfl) ?_
      refine (rs_all 400).1 0 b p M _ hP (fun h9 => hne 0 (wkL_1 hpn h9)) (fun M91 ss q91 e91 k91 => ?_) (fun Mb kb ab eb hB => ?_)  
      · refine pv_then0 ?_
        refine pv_aloadn (pc := 94) (n := 0) 0 rfl rfl (fm_dec dtX11_work 50 rfl) ?_
        refine pv_invV0 (k := 0) (d' := 1) (pc := 95) pcv_X11_123 (by decide) rfl (Nat.le_of_ble_eq_true rfl) (by omega) (fm_dec dtX11_work 51 rfl) ?_
        refine r_blanks k91.1 k91.2.1 (fun M95 k95 => ?_)
        refine pv_then0 ?_
        refine pv_goto (pc := 98) 72 (by decide) (fm_dec dtX11_work 52 rfl) ?_
        have hl := spSt_len hP.1.2.2.2.1 _ _ _ _ _ _ _ hP.1.2.2.1 e91
        refine ih (b + ss.length) (sk tx q91) M95 (hP.next k91 hl.1 k95) (fun a h9 => hne a (wkL_2 hpn e91 h9)) (fun M9 ts q e h => hok M9 _ q (wkL_3 hpn e91 e) (k91.app k95.2.2 (k95.2.2.2.1 8 (by decide) (by decide) (by decide)) h)) (fun M9 k a e h => hbad M9 k a (wkL_2 hpn e91 e) ⟨h.1, h.2.1, h.2.2.1, h.2.2.2.1, (k91.2.2.2.2.2.rd k95.2.2).trans h.2.2.2.2 (by omega)⟩)
      · refine pv_then0 ?_
        obtain ⟨qb, hSb⟩ := hB.1
        refine pv_aloadn (pc := 94) (n := 0) 0 rfl rfl (fm_dec dtX11_work 50 rfl) ?_
        refine pv_invV0 (k := 0) (d' := 1) (pc := 95) pcv_X11_123 (by decide) rfl (Nat.le_of_ble_eq_true rfl) (by omega) (fm_dec dtX11_work 51 rfl) ?_
        refine c_blanks hSb (fun x95 hx95 => ?_)
        refine pv_then0 ?_
        refine pv_goto (pc := 98) 72 (by decide) (fm_dec dtX11_work 52 rfl) ?_
        exact wk_o1S (srBad.nz (hB.bl hSb hx95)) (hbad _ kb ab (wkL_1 hpn eb) (hB.bl hSb hx95))
set_option maxRecDepth 20000 in
theorem wk_e1S {Q : fmR → fmM → Prop} {M : fmM} {nn : Int32} (hf : ¬ M.1 0 5 = 0) (hq : Q (.inl (some (.int (M.1 0 5 - 10)))) (fmI M 0 3 (M.1 0 6))) : pvEv Tm 214 qX11_work 101 [some (.ref 0), some (.int nn)] [] M Q := by
  refine pv_aloadn (pc := 101) (n := 0) 0 rfl rfl (fm_dec dtX11_work 53 rfl) ?_
  refine pv_getI (k := 0) (j := 5) (ci := 11) (pc := 102) pfl_X11_117 (by decide) rfl (by decide) (fm_dec dtX11_work 54 rfl) ?_
  refine pv_if_eq (pc := 105) 113 (by decide) (fm_dec dtX11_work 55 rfl) (fun hc105 => by exfalso; exact hf hc105) (fun _ => ?_)
  refine pv_aloadn (pc := 108) (n := 0) 0 rfl rfl (fm_dec dtX11_work 56 rfl) ?_
  refine pv_invV0 (k := 0) (d' := 0) (pc := 109) pcv_X11_187 (by decide) rfl (Nat.le_of_ble_eq_true rfl) (by omega) (fm_dec dtX11_work 57 rfl) ?_
  refine c_ends ?_
  refine pv_then1 ?_
  exact pv_ireturn (pc := 112) rfl (fm_dec dtX11_work 58 rfl) hq
theorem lwM.f2 {M M' : fmM} {cs : tC} (h : lwM M cs) (e : M'.1 0 17 = M.1 0 17) (e2 : ∀ k j, 91 ≤ k → k < 251 → M'.1 k j = M.1 k j) : lwM M' cs := ⟨by rw [e]; exact h.1, h.2.1, h.2.2.1, fun i c hi => by
  have hl : i < cs.length := (List.getElem?_eq_some_iff.mp hi).1
  have h9 := h.2.1
  rw [e2 _ _ (by omega) (by omega), e2 _ _ (by omega) (by omega)]
  exact h.2.2.2 i c hi⟩
set_option maxRecDepth 20000 in
theorem wk_sS {Q : fmR → fmM → Prop} {M : fmM} {nn : Int32} {ss : tS} {w g9 : Nat} {D : dD} {cs : tC} {S : aS} (hf : M.1 0 5 = 0) (hD : dOk D) (hN : nuO D ss) (hg9 : wnL g9 6 0 ss) (hY : mdw M D) (hL : lwM M cs) (hd : cs = [] ∨ dpB 23 0 cs = some 1) (hs : mst M D S) (ho : stO D S) (hw : (M.1 0 32).toInt = w) (hw16 : w < 16) (hR : stRep M 0 ss) (hn : ss.length ≤ 80) (h26 : (M.1 0 26).toInt = (ss.length : Int)) (hq : ∀ (M3 M' : fmM), mAll M' D cs (goW D cs ss S) → cpB 7 (503 + w) 14 (fmI M 0 3 (-1)) M3 → nFr (wkM M3) M' → Q (.inl (some (.int (M'.1 0 37)))) M') : pvEv Tm 214 qX11_work 101 [some (.ref 0), some (.int nn)] [] M Q := by
  refine pv_aloadn (pc := 101) (n := 0) 0 rfl rfl (fm_dec dtX11_work 53 rfl) ?_
  refine pv_getI (k := 0) (j := 5) (ci := 11) (pc := 102) pfl_X11_117 (by decide) rfl (by decide) (fm_dec dtX11_work 54 rfl) ?_
  refine pv_if_eq (pc := 105) 113 (by decide) (fm_dec dtX11_work 55 rfl) (fun _ => ?_) (fun hc105 => by exfalso; exact hc105 hf)
  refine pv_aloadn (pc := 113) (n := 0) 0 rfl rfl (fm_dec dtX11_work 59 rfl) ?_
  refine pv_iconst (pc := 114) (v := (-1)) (by decide) (fm_dec dtX11_work 60 rfl) ?_
  refine pv_putI (k := 0) (j := 3) (ci := 11) (pc := 115) pfl_X11_9 (by decide) rfl (by decide) (fm_dec dtX11_work 61 rfl) ?_
  refine pv_aloadn (pc := 118) (n := 0) 0 rfl rfl (fm_dec dtX11_work 62 rfl) ?_
  refine pv_getR (k := 0) (j := 27) (ci := 11) (pc := 119) 7 rfl (by decide) pfl_X11_61 (by decide) rfl (by decide) (fm_dec dtX11_work 63 rfl) ?_
  refine pv_aloadn (pc := 122) (n := 0) 0 rfl rfl (fm_dec dtX11_work 64 rfl) ?_
  refine pv_getR (k := 0) (j := 29) (ci := 11) (pc := 123) 25 rfl (by decide) pfl_X11_67 (by decide) rfl (by decide) (fm_dec dtX11_work 65 rfl) ?_
  refine pv_aloadn (pc := 126) (n := 0) 0 rfl rfl (fm_dec dtX11_work 66 rfl) ?_
  refine pv_getI (k := 0) (j := 32) (ci := 11) (pc := 127) pfl_X11_200 (by decide) rfl (by decide) (fm_dec dtX11_work 67 rfl) ?_
  refine pv_aald (k := 25) (n := 16) (r := (503 + w)) (pc := 130) (by decide) (Or.inr (Or.inr rfl)) rfl (rw_before.inb hw hw16) (rw_before.at hw hw16) (rw_before.2.2.2 _ hw16).2.1 (fm_dec dtX11_work 68 rfl) ?_
  refine pv_iS2 (d' := 0) (pc := 131) pcs_X11_323 (Nat.le_of_ble_eq_true rfl) (by omega) (fm_dec dtX11_work 69 rfl) ?_
  refine c_mcp ro_7 (ro_b w hw16) (by omega) (fun M131 c131 => ?_) 
  refine pv_then0 ?_
  refine pv_aloadn (pc := 134) (n := 0) 0 rfl rfl (fm_dec dtX11_work 70 rfl) ?_
  refine pv_dup (pc := 135) rfl (fm_dec dtX11_work 71 rfl) ?_
  refine pv_getI (k := 0) (j := 32) (ci := 11) (pc := 136) pfl_X11_200 (by decide) rfl (by decide) (fm_dec dtX11_work 72 rfl) ?_
  refine pv_iconst (pc := 139) (v := 1) (by decide) (fm_dec dtX11_work 73 rfl) ?_
  refine pv_iadd (pc := 140) (fm_dec dtX11_work 74 rfl) ?_
  refine pv_putI (k := 0) (j := 32) (ci := 11) (pc := 141) pfl_X11_200 (by decide) rfl (by decide) (fm_dec dtX11_work 75 rfl) ?_
  refine pv_aloadn (pc := 144) (n := 0) 0 rfl rfl (fm_dec dtX11_work 76 rfl) ?_
  refine pv_iconst (pc := 145) (v := 0) (by decide) (fm_dec dtX11_work 77 rfl) ?_
  refine pv_putI (k := 0) (j := 36) (ci := 11) (pc := 146) pfl_X11_310 (by decide) rfl (by decide) (fm_dec dtX11_work 78 rfl) ?_
  refine pv_aloadn (pc := 149) (n := 0) 0 rfl rfl (fm_dec dtX11_work 79 rfl) ?_
  refine pv_iconst (pc := 150) (v := 0) (by decide) (fm_dec dtX11_work 80 rfl) ?_
  refine pv_putI (k := 0) (j := 37) (ci := 11) (pc := 151) pfl_X11_320 (by decide) rfl (by decide) (fm_dec dtX11_work 81 rfl) ?_
  refine pv_aloadn (pc := 154) (n := 0) 0 rfl rfl (fm_dec dtX11_work 82 rfl) ?_
  refine pv_iconst (pc := 155) (v := 0) (by decide) (fm_dec dtX11_work 83 rfl) ?_
  refine pv_putI (k := 0) (j := 33) (ci := 11) (pc := 156) pfl_X11_203 (by decide) rfl (by decide) (fm_dec dtX11_work 84 rfl) ?_
  show pvEv Tm 214 qX11_work 159 _ _ (wkM M131) Q
  have ek : ∀ k j, k ≠ 0 → k < 503 → (wkM M131).1 k j = M.1 k j := fun k j h0 h1 => (by unfold wkM; rw [fmI_k _ _ h0, fmI_k _ _ h0, fmI_k _ _ h0, fmI_k _ _ h0, c131.2.1 k j (by omega), fmI_k _ _ h0])
  have e0 : ∀ j, j ≠ 3 → j ≠ 32 → j ≠ 33 → j ≠ 36 → j ≠ 37 → (wkM M131).1 0 j = M.1 0 j := fun j a b c d e => (by unfold wkM; rw [fmI_j _ _ c, fmI_j _ _ e, fmI_j _ _ d, fmI_j _ _ b, c131.2.1 0 j (by omega), fmI_j _ _ a])
  have hA9 : mAll (wkM M131) D cs (S, 0, 0, 0) := ⟨hY.k hD (fun k j a => ek k j (by omega) (by omega)), hL.f2 (e0 17 (by decide) (by decide) (by decide) (by decide) (by decide)) (fun k j a b => ek k j (by omega) (by omega)), hd, hs.of (fun j => ek 7 j (by decide) (by decide)), ho, z_i, z_i, z_i, Nat.le_refl _, Nat.zero_le _⟩
  have hR9 : stRep (wkM M131) 0 ss := hR.of (by omega) (fun k j a b => ek k j (by omega) b)
  have hz9 : ((wkM M131).1 0 26).toInt = ((0 + ss.length : Nat) : Int) := (by rw [e0 26 (by decide) (by decide) (by decide) (by decide) (by decide), Nat.zero_add]; exact h26)
  refine pv_aloadn (pc := 159) (n := 0) 0 rfl rfl (fm_dec dtX11_work 85 rfl) ?_
  refine pv_iconst (pc := 160) (v := 0) (by decide) (fm_dec dtX11_work 86 rfl) ?_
  refine pv_aloadn (pc := 161) (n := 0) 0 rfl rfl (fm_dec dtX11_work 87 rfl) ?_
  refine pv_getI (k := 0) (j := 26) (ci := 11) (pc := 162) pfl_X11_250 (by decide) rfl (by decide) (fm_dec dtX11_work 88 rfl) ?_
  refine pv_invV2 (k := 0) (d' := (12 + 201)) (pc := 165) pcv_X11_313 (by decide) rfl (Nat.le_of_ble_eq_true rfl) (by omega) (fm_dec dtX11_work 89 rfl) ?_
  refine (mg_E (cs := cs) hD hN hn 201).go (M := wkM M131) (a := 0) (l := ss) (g := g9) (d := 6) hA9 hR9 seg_0 (by omega) hg9 (by decide) hz9 (by show 200 - 0 < 201; decide) (fun M165 h165 f165 => ?_) 
  refine pv_then0 ?_
  refine pv_aloadn (pc := 168) (n := 0) 0 rfl rfl (fm_dec dtX11_work 90 rfl) ?_
  refine pv_getI (k := 0) (j := 37) (ci := 11) (pc := 169) pfl_X11_320 (by decide) rfl (by decide) (fm_dec dtX11_work 91 rfl) ?_
  exact pv_ireturn (pc := 172) rfl (fm_dec dtX11_work 92 rfl) (hq M131 M165 h165 c131 f165)
/-- what reading a work leaves on the other side -/
def woF (M M' : fmM) : Prop := (∀ k j, k ≠ 0 → ¬ (423 ≤ k ∧ k < 503) → M'.1 k j = M.1 k j) ∧ (∀ j, j = 17 ∨ (31 ≤ j ∧ j ≤ 34) → M'.1 0 j = M.1 0 j) ∧ M'.2 = M.2 ∧ M'.1 0 0 = 0
theorem woF.p3 {M M' : fmM} {x : Int32} (h : woF M M') : woF M (fmI M' 0 3 x) := ⟨fun k j a b => by rw [fmI_k _ _ a]; exact h.1 k j a b, fun j a => by rw [fmI_j _ _ (by omega)]; exact h.2.1 j a, h.2.2.1, by rw [fmI_j _ _ (by decide)]; exact h.2.2.2⟩
theorem wo_F {M M1 M' : fmM} {tx : tX} {n : Nat} (h : stOk (fmI M 0 0 0) M1 tx n) (h2 : srFr 0 (fmI M1 0 26 0) M') : woF M M' := by
  refine ⟨fun k j a b => ?_, fun j a => ?_, ?_, ?_⟩
  · rw [h2.1 k j a (by omega), fmI_k _ _ a]
    exact st_k h a
  · rw [h2.2.1 j (by omega) (by omega) (by omega) (by omega) (by omega), fmI_j _ _ (by omega)]
    exact st_j h (by omega)
  · rw [h2.2.2]
    exact h.2.2.2.2.2.2.2.2.trans rfl
  · rw [h2.2.1 0 (by decide) (by decide) (by decide) (by decide) (by decide), fmI_j _ _ (by decide), h.2.2.2.2.2.2.2.1 0 (by decide) (by decide) (by decide) (by decide) (by decide) (by decide) (by decide), fmI_s]
/-- and what doing it leaves: w works were there -/
def woK (w : Nat) (M M' : fmM) : Prop := (∀ k j, k ≠ 0 → k ≠ 5 → k ≠ 6 → k ≠ 7 → k ≠ 503 + w → ¬ (423 ≤ k ∧ k < 503) → M'.1 k j = M.1 k j) ∧ (∀ j, j < 14 → M'.1 (503 + w) j = M.1 7 j) ∧ M'.1 0 32 = M.1 0 32 + 1 ∧ M'.1 0 34 = M.1 0 34 ∧ M'.1 0 31 = M.1 0 31 ∧ M'.1 0 17 = M.1 0 17 ∧ M'.1 0 0 = 0
theorem wo_M {M M2 M3 M' : fmM} {w : Nat} (hw : w < 16) (h : woF M M2) (c : cpB 7 (503 + w) 14 (fmI M2 0 3 (-1)) M3) (f : nFr (wkM M3) M') : woK w M M' := by
  have e3 : ∀ k j, k ≠ 0 → (wkM M3).1 k j = M3.1 k j := fun k j a => by
    unfold wkM
    rw [fmI_k _ _ a, fmI_k _ _ a, fmI_k _ _ a, fmI_k _ _ a]
  have e0 : ∀ j, j = 17 ∨ j = 31 ∨ j = 34 → (wkM M3).1 0 j = M2.1 0 j := fun j a => by
    unfold wkM
    rw [fmI_j _ _ (by omega), fmI_j _ _ (by omega), fmI_j _ _ (by omega), fmI_j _ _ (by omega), c.2.1 0 j (by omega), fmI_j _ _ (by omega)]
  refine ⟨fun k j a b d e g i => ?_, fun j hj => ?_, ?_, ?_, ?_, ?_, ?_⟩
  · rw [f.1 k j a b d e, e3 k j a, c.2.1 k j (by omega), fmI_k _ _ a]
    exact h.1 k j a i
  · rw [f.1 _ j (by omega) (by omega) (by omega) (by omega), e3 _ j (by omega), c.1 j hj, fmI_k _ _ (by decide)]
    exact h.1 7 j (by decide) (by decide)
  · rw [f.2.1 32 (by decide) (by decide) (by decide)]
    unfold wkM
    rw [fmI_j _ _ (by decide), fmI_j _ _ (by decide), fmI_j _ _ (by decide), fmI_s, c.2.1 0 32 (by omega), fmI_j _ _ (by decide), h.2.1 32 (by decide)]
  · rw [f.2.1 34 (by decide) (by decide) (by decide), e0 34 (by decide)]
    exact h.2.1 34 (by decide)
  · rw [f.2.1 31 (by decide) (by decide) (by decide), e0 31 (by decide)]
    exact h.2.1 31 (by decide)
  · rw [f.2.1 17 (by decide) (by decide) (by decide), e0 17 (by decide)]
    exact h.2.1 17 (by decide)
  · rw [f.2.1 0 (by decide) (by decide) (by decide)]
    unfold wkM
    rw [fmI_j _ _ (by decide), fmI_j _ _ (by decide), fmI_j _ _ (by decide), fmI_j _ _ (by decide), c.2.1 0 0 (by omega), fmI_j _ _ (by decide)]
    exact h.2.2.2
/-- a work, on both sides -/
theorem rSt.wo {M M' M2 M2' : fmM} {D : dD} {S' : aS} {w : Nat} (h : rSt M M2 D) (hD : D.1 ≤ 8) (hw : (M.1 46 2).toInt = (w : Int)) (h16 : w < 16) (hx : xst M' D S') (hm : mst M2' D S') (ho : stO D S') (k1 : wkK w M M') (k2 : woK w M2 M2') : rSt M' M2' D := by
  obtain ⟨⟨h1, h2, h3⟩, h4, h5⟩ := h
  obtain ⟨a1, a2, a3, a4⟩ := k1
  obtain ⟨b1, b2, b3, b4, -, -, -⟩ := k2
  have h1 : M.1 46 2 = M2.1 0 32 := h1
  refine ⟨⟨?_, ⟨S', hx, hm, ho⟩, fun w' hw' h16' => ?_⟩, ?_, fun i hi hi3 => ?_⟩
  · show M'.1 46 2 = _
    rw [a4, b3, h1]
  · rw [b3, ← h1, i32_p1 hw (by omega)] at hw'
    by_cases e : w' = w
    · subst e
      exact h2.cp hD a3 (fun j hj => b2 j hj)
    · exact (h3 w' (by rw [← h1]; omega) h16').cp hD (smS.same (fun j => (a1 _ (by omega) j).1) (fun j => (a1 _ (by omega) j).1) (a1 _ (by omega) 6).2) (fun j _ => b1 _ j (by omega) (by omega) (by omega) (by omega) (by omega) (by omega))
  · rw [a2, b4]
    exact h4
  · rw [a2] at hi
    exact (h5 i hi hi3).keep hD (fun k a b j => a1 k (by omega) j) (b1 _ _ (by omega) (by omega) (by omega) (by omega) (by omega) (by omega)) (fun j _ => b1 _ _ (by omega) (by omega) (by omega) (by omega) (by omega) (by omega)) (fun w _ j _ => b1 _ _ (by omega) (by omega) (by omega) (by omega) (by omega) (by omega))
set_option maxRecDepth 20000 in
theorem c_mwoS {M : fmM} {Q : fmR → fmM → Prop} {nn : Int32} {w : Nat} {D : dD} {cs : tC} {S : aS} (hI : scInv Tm invM M) (hD : dOk D) (hY : mdw M D) (hL : lwM M cs) (hd : cs = [] ∨ dpB 23 0 cs = some 1) (hs : mst M D S) (ho : stO D S) (hw : (M.1 0 32).toInt = (w : Int)) (hw16 : w ≤ 16) (hrf : ¬ txP nn 150 (M.1 0 1).toInt → Q (.inl (some (.int 0))) (rfM M 1 1)) (hful : txP nn 150 (M.1 0 1).toInt → w = 16 → Q (.inl (some (.int (-20)))) (fmI (fmI (fmI M 0 0 0) 0 1 0) 0 3 (-1))) (hbad : ∀ (n k a : Nat) (r : Int32) (M' : fmM), nn.toInt = (n : Int) → txP nn 150 (M.1 0 1).toInt → w < 16 → spWork (rT M n) n D.1 = .inl (k, a) → r.toInt = (k : Int) - 10 → woF M M' → Q (.inl (some (.int r))) M') (hok : ∀ (n : Nat) (ss : tS) (M' : fmM), nn.toInt = (n : Int) → txP nn 150 (M.1 0 1).toInt → w < 16 → spWork (rT M n) n D.1 = .inr ss → mAll M' D cs (goW D cs ss S) → woK w M M' → Q (.inl (some (.int (M'.1 0 37)))) M') : pvGood Tm 214 qX11_work [.ref 0, .int nn] M Q := by
  refine pvGood_of (Nat.le_of_ble_eq_true rfl) ?_
  show pvEv Tm 214 qX11_work 0 [some (.ref 0), some (.int nn)] [] M Q
  have h4 : (M.1 4 0).toInt = (D.1 : Int) := hY.1
  have hl := hD.1
  have hI0 := hI.p00 (x := 0) (Or.inl rfl)
  have hfed := inv_fed hI
  refine pv_aloadn (pc := 0) (n := 0) 0 rfl rfl (fm_dec dtX11_work 0 rfl) ?_
  refine pv_iconst (pc := 1) (v := 0) (by decide) (fm_dec dtX11_work 1 rfl) ?_
  refine pv_putI (k := 0) (j := 0) (ci := 11) (pc := 2) pfl_X11_101 (by decide) rfl (by decide) (fm_dec dtX11_work 2 rfl) ?_
  refine pv_aloadn (pc := 5) (n := 0) 0 rfl rfl (fm_dec dtX11_work 3 rfl) ?_
  refine pv_iloadn (pc := 6) (n := 1) 1 rfl rfl (fm_dec dtX11_work 4 rfl) ?_
  refine pv_iconst (pc := 7) (v := 0) (by decide) (fm_dec dtX11_work 5 rfl) ?_
  refine pv_aloadn (pc := 8) (n := 0) 0 rfl rfl (fm_dec dtX11_work 6 rfl) ?_
  refine pv_getI (k := 0) (j := 1) (ci := 11) (pc := 9) pfl_X11_104 (by decide) rfl (by decide) (fm_dec dtX11_work 7 rfl) ?_
  refine pv_iS3 (d' := 0) (pc := 12) pcs_X11_135 (Nat.le_of_ble_eq_true rfl) (by decide) (fm_dec dtX11_work 8 rfl) ?_
  refine c_in (fun h12a h12b => ?_) (fun h12 => ?_)
  · refine pv_then1 ?_
    refine pv_if_eq (pc := 15) 25 (by decide) (fm_dec dtX11_work 9 rfl) (fun hc15 => by exfalso; revert hc15; decide) (fun _ => ?_)
    refine pv_iloadn (pc := 18) (n := 1) 1 rfl rfl (fm_dec dtX11_work 10 rfl) ?_
    refine pv_sipush (pc := 19) (v := 150) (by decide) (fm_dec dtX11_work 11 rfl) ?_
    refine pv_icmp_le (pc := 22) 29 (by decide) (fm_dec dtX11_work 12 rfl) (fun hc22 => ?_) (fun hc22 => ?_)
    · refine pv_iconst (pc := 29) (v := 0) (by decide) (fm_dec dtX11_work 15 rfl) ?_
      refine pv_iconst (pc := 30) (v := 1) (by decide) (fm_dec dtX11_work 16 rfl) ?_
      refine pv_iconst (pc := 31) (v := 1) (by decide) (fm_dec dtX11_work 17 rfl) ?_
      refine pv_invV3 (k := 0) (d' := 0) (pc := 32) pcv_X11_177 (by decide) rfl (Nat.le_of_ble_eq_true rfl) (by decide) (fm_dec dtX11_work 18 rfl) ?_
      refine c_badF1 rfl ?_
      refine pv_then1 ?_
      refine pv_if_eq (pc := 35) 40 (by decide) (fm_dec dtX11_work 19 rfl) (fun _ => ?_) (fun hc35 => by exfalso; revert hc35; decide)
      refine pv_aloadn (pc := 40) (n := 0) 0 rfl rfl (fm_dec dtX11_work 22 rfl) ?_
      refine pv_getI (k := 0) (j := 32) (ci := 11) (pc := 41) pfl_X11_200 (by decide) rfl (by decide) (fm_dec dtX11_work 23 rfl) ?_
      refine pv_bipush (pc := 44) (v := 16) (by decide) (fm_dec dtX11_work 24 rfl) ?_
      refine pv_icmp_ne (pc := 46) 62 (by decide) (fm_dec dtX11_work 25 rfl) (fun hc46 => ?_) (fun hc46 => ?_)
      · obtain ⟨n0, hn0⟩ : ∃ n0 : Nat, nn.toInt = n0 := ⟨nn.toInt.toNat, by have h9 : (0 : Int32).toInt = 0 := (by decide); omega⟩
        have hn150 : n0 ≤ 150 := (by have h9 := hc22; rw [sc_le] at h9; have h8 : (150 : Int32).toInt = 150 := (by decide); omega)
        have hn6 : n0 ≤ 600 := (by omega)
        refine pv_aloadn (pc := 62) (n := 0) 0 rfl rfl (fm_dec dtX11_work 34 rfl) ?_
        refine pv_iloadn (pc := 63) (n := 1) 1 rfl rfl (fm_dec dtX11_work 35 rfl) ?_
        refine pv_invV1 (k := 0) (d' := 2) (pc := 64) pcv_X11_181 (by decide) rfl (Nat.le_of_ble_eq_true rfl) (by omega) (fm_dec dtX11_work 36 rfl) ?_
        refine c_starts (n := n0) (M := fmI M 0 0 0) hfed hn6 hn0 (fun M64 h64 => ?_) 
        refine pv_then0 ?_
        refine pv_aloadn (pc := 67) (n := 0) 0 rfl rfl (fm_dec dtX11_work 37 rfl) ?_
        refine pv_iconst (pc := 68) (v := 0) (by decide) (fm_dec dtX11_work 38 rfl) ?_
        refine pv_putI (k := 0) (j := 26) (ci := 11) (pc := 69) pfl_X11_250 (by decide) rfl (by decide) (fm_dec dtX11_work 39 rfl) ?_
        have hI64 := inv_st hI h64
        have hok9 := rT_ok (n := n0) hfed hn6
        have hs0 : sk (rT M n0) 0 ≤ n0 := sp_le tB_1 hok9 (Nat.zero_le _)
        have hIs : scInv Tm invM (fmI M64 0 26 0) := hI64.put (scq_t 0) rfl
        have h4s : ((fmI M64 0 26 0).1 4 0).toInt = D.1 := (by rw [fmI_k _ _ (by decide), st_k h64 (by decide)]; exact h4)
        have hP : srPre (fmI M64 0 26 0) (rT M n0) n0 (sk (rT M n0) 0) 0 0 D.1 := ⟨h64.1.of rfl rfl rfl, h64.2.1, (by show (M64.1 0 8).toInt = _; rw [h64.2.2.1]; decide), by decide, (by rw [fmI_s]; decide), by omega, hn150, h4s, hl⟩
        have hbd := fun e he => wkL_bad hok9 hn150 700 0 (sk (rT M n0) 0) e hs0 (by omega) he (l := D.1)
        have hwlt : w < 16 := (by have h9 : ¬ w = 16 := (fun h9 => hc46 (i32_ext (hw.trans (by rw [h9]; decide)))); omega)
        refine wk_loopS (l := D.1) 700 0 _ _ hP (fun a h9 => by have h8 := (hbd _ h9).1.2; exact absurd h8 (show ¬ 9 ≤ 3 by decide)) (fun M2 ss q e h => ?_) (fun M2 k a e hB => ?_)
        · have g := wkL_ok hok9 700 0 _ ss hs0 e
          have hN := spWork_nu hok9 hn150 hD.1 e
          obtain ⟨g9, hg9⟩ := spWork_wn (l := D.1) e
          have ew : woF M M2 := wo_F h64 h.2.2.2.2.2
          refine wk_sS (w := w) h.2.1 hD hN.1 hg9 (hY.k hD (fun k j a => ew.1 k j (by omega) (by omega))) (hL.f2 (ew.2.1 17 (by decide)) (fun k j a b => ew.1 k j (by omega) (by omega))) hd (hs.of (fun j => ew.1 7 j (by decide) (by decide))) ho (by rw [ew.2.1 32 (by decide)]; exact hw) hwlt h.2.2.2.2.1 (by omega) (by rw [h.2.2.2.1]; congr 1; omega) (fun M3 M' a1 a2 a3 => hok n0 ss M' hn0 ⟨by omega, by omega, by exact h12b⟩ hwlt e a1 (wo_M hwlt ew a2 a3))
        · have hk := hbd _ e
          exact wk_e1S hB.nz (hbad n0 k a _ _ hn0 ⟨by omega, by omega, by exact h12b⟩ hwlt e (law_r hB.2.1 (by have h8 := hB.2.1; have h7 := hk.1; omega)) (wo_F h64 hB.2.2.2.2).p3)
      · refine pv_aloadn (pc := 49) (n := 0) 0 rfl rfl (fm_dec dtX11_work 26 rfl) ?_
        refine pv_iconst (pc := 50) (v := 0) (by decide) (fm_dec dtX11_work 27 rfl) ?_
        refine pv_putI (k := 0) (j := 1) (ci := 11) (pc := 51) pfl_X11_104 (by decide) rfl (by decide) (fm_dec dtX11_work 28 rfl) ?_
        refine pv_aloadn (pc := 54) (n := 0) 0 rfl rfl (fm_dec dtX11_work 29 rfl) ?_
        refine pv_iconst (pc := 55) (v := (-1)) (by decide) (fm_dec dtX11_work 30 rfl) ?_
        refine pv_putI (k := 0) (j := 3) (ci := 11) (pc := 56) pfl_X11_9 (by decide) rfl (by decide) (fm_dec dtX11_work 31 rfl) ?_
        refine pv_bipush (pc := 59) (v := (-20)) (by decide) (fm_dec dtX11_work 32 rfl) ?_
        exact pv_ireturn (pc := 61) rfl (fm_dec dtX11_work 33 rfl) (hful ⟨by have h9 : (0 : Int32).toInt = 0 := (by decide); omega, by have h9 := hc22; rw [sc_le] at h9; have h8 : (150 : Int32).toInt = 150 := (by decide); omega, by exact h12b⟩ (by have h8 : (M.1 0 32).toInt = (16 : Int32).toInt := congrArg Int32.toInt hc46; have h7 : (16 : Int32).toInt = 16 := (by decide); omega))
    · refine pv_iconst (pc := 25) (v := 1) (by decide) (fm_dec dtX11_work 13 rfl) ?_
      refine pv_goto (pc := 26) 30 (by decide) (fm_dec dtX11_work 14 rfl) ?_
      refine pv_iconst (pc := 30) (v := 1) (by decide) (fm_dec dtX11_work 16 rfl) ?_
      refine pv_iconst (pc := 31) (v := 1) (by decide) (fm_dec dtX11_work 17 rfl) ?_
      refine pv_invV3 (k := 0) (d' := 0) (pc := 32) pcv_X11_177 (by decide) rfl (Nat.le_of_ble_eq_true rfl) (by decide) (fm_dec dtX11_work 18 rfl) ?_
      refine c_badT1 rfl (by decide) ?_
      refine pv_then1 ?_
      refine pv_if_eq (pc := 35) 40 (by decide) (fm_dec dtX11_work 19 rfl) (fun hc35 => by exfalso; revert hc35; decide) (fun _ => ?_)
      refine pv_iconst (pc := 38) (v := 0) (by decide) (fm_dec dtX11_work 20 rfl) ?_
      exact pv_ireturn (pc := 39) rfl (fm_dec dtX11_work 21 rfl) (hrf (by intro h9; first | (have h8 := hc22; rw [sc_le] at h8; have h7 : (150 : Int32).toInt = 150 := (by decide); have h6 := h9.2.1; omega) | exact h12 ⟨(show (0 : Int32).toInt ≤ _ from h9.1), h9.2.2⟩))
  · refine pv_then1 ?_
    refine pv_if_eq (pc := 15) 25 (by decide) (fm_dec dtX11_work 9 rfl) (fun _ => ?_) (fun hc15 => by exfalso; revert hc15; decide)
    refine pv_iconst (pc := 25) (v := 1) (by decide) (fm_dec dtX11_work 13 rfl) ?_
    refine pv_goto (pc := 26) 30 (by decide) (fm_dec dtX11_work 14 rfl) ?_
    refine pv_iconst (pc := 30) (v := 1) (by decide) (fm_dec dtX11_work 16 rfl) ?_
    refine pv_iconst (pc := 31) (v := 1) (by decide) (fm_dec dtX11_work 17 rfl) ?_
    refine pv_invV3 (k := 0) (d' := 0) (pc := 32) pcv_X11_177 (by decide) rfl (Nat.le_of_ble_eq_true rfl) (by decide) (fm_dec dtX11_work 18 rfl) ?_
    refine c_badT1 rfl (by decide) ?_
    refine pv_then1 ?_
    refine pv_if_eq (pc := 35) 40 (by decide) (fm_dec dtX11_work 19 rfl) (fun hc35 => by exfalso; revert hc35; decide) (fun _ => ?_)
    refine pv_iconst (pc := 38) (v := 0) (by decide) (fm_dec dtX11_work 20 rfl) ?_
    exact pv_ireturn (pc := 39) rfl (fm_dec dtX11_work 21 rfl) (hrf (by intro h9; first | (have h8 := hc22; rw [sc_le] at h8; have h7 : (150 : Int32).toInt = 150 := (by decide); have h6 := h9.2.1; omega) | exact h12 ⟨(show (0 : Int32).toInt ≤ _ from h9.1), h9.2.2⟩))
