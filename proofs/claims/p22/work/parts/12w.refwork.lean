-- THE REFERENCE'S WORK: any arguments
theorem inv_sr {M M' : fmM} {b : Nat} (hI : scInv Tm invM M) (h : srFr b M M') : scInv Tm invM M' := by
  refine ⟨fun k j hj => ?_, fun hm => jm_stable (hI.2 hm) (fun k j hk => ?_)⟩
  · by_cases e0 : k = 0
    · subst e0
      by_cases e : j = 4 ∨ j = 5 ∨ j = 6 ∨ j = 8 ∨ j = 26
      · have e9 : scAt (invM 0) j = scTop := by rcases e with rfl | rfl | rfl | rfl | rfl <;> rfl
        rw [e9]
        exact scq_t _
      · rw [h.2.1 j (by omega) (by omega) (by omega) (by omega) (by omega)]
        exact hI.1 0 j hj
    · by_cases e : 423 + b ≤ k ∧ k < 503
      · rw [inv_top (by omega) j]
        exact scq_t _
      · rw [h.1 k j e0 e]
        exact hI.1 k j hj
  · by_cases e0 : k = 0
    · subst e0
      have h9 : j = 17 := by simpa [jmPr] using hk
      subst h9
      exact h.2.1 17 (by decide) (by decide) (by decide) (by decide) (by decide)
    · refine h.1 k j e0 (fun e => ?_)
      simp [jmPr] at hk
      omega
theorem inv_st {M M1 : fmM} {tx : tX} {n : Nat} (hI : scInv Tm invM M) (hs : stOk (fmI M 0 0 0) M1 tx n) : scInv Tm invM M1 := by
  refine ⟨fun k j hj => ?_, fun hm => jm_stable (hI.2 hm) (fun k j hk => ?_)⟩
  · by_cases e0 : k = 0
    · subst e0
      by_cases e1 : j = 0
      · subst e1
        rw [st_0 hs]
        decide
      · by_cases e2 : j = 1
        · subst e2
          rw [hs.2.2.2.2.1]
          decide
        · by_cases e : j = 2 ∨ j = 4 ∨ j = 5 ∨ j = 6 ∨ j = 7 ∨ j = 8
          · have e9 : scAt (invM 0) j = scTop := by rcases e with rfl | rfl | rfl | rfl | rfl | rfl <;> rfl
            rw [e9]
            exact scq_t _
          · rw [hs.2.2.2.2.2.2.2.1 j (by omega) (by omega) (by omega) (by omega) (by omega) (by omega) (by omega), fmI_j _ _ e1]
            exact hI.1 0 j hj
    · rw [st_k hs e0]
      exact hI.1 k j hj
  · by_cases e0 : k = 0
    · subst e0
      have h9 : j = 17 := by simpa [jmPr] using hk
      subst h9
      exact st_j hs (by decide)
    · exact st_k hs e0
theorem stRep.of {M M' : fmM} {b : Nat} {ss : tS} (h : stRep M b ss) (hb : b + ss.length ≤ 80) (e : ∀ k j, 423 ≤ k → k < 503 → M'.1 k j = M.1 k j) : stRep M' b ss := fun i s hi => by
  have hl : i < ss.length := (List.getElem?_eq_some_iff.mp hi).1
  rw [e _ _ (by omega) (by omega), e _ _ (by omega) (by omega), e _ _ (by omega) (by omega)]
  exact h i s hi
theorem gSt_of {M : fmM} {ss : tS} {l : Nat} (hR : stRep M 0 ss) (hO : ssOk l 0 ss) (hn : ss.length ≤ 80) (hl : l ≤ 8) (h4 : (M.1 4 0).toInt = l) (hI : scInv Tm invM M) (hg : M.1 0 36 = 0) : gSt M ss.length l 0 := by
  refine ⟨hn, hl, h4, fun b hb => ?_, hI, (by rw [hg]; decide), by decide⟩
  have h1 := hR b ss[b] (List.getElem?_eq_getElem hb)
  have h2 := hO b ss[b] (List.getElem?_eq_getElem hb)
  rw [Nat.add_zero] at h1
  rw [Nat.zero_add] at h2
  obtain ⟨c1, c2, c3, c4, c5⟩ := h2
  exact ⟨ss[b].1, ss[b].2.1, ss[b].2.2, h1.1, c1, fun h => ⟨h1.2.1 (by omega), c2 h⟩, fun h => ⟨h1.2.1 (by omega), c3 h⟩, h1.2.2, c4, by omega⟩
abbrev cpW : List (Nat × Nat × Nat) := [(503, 0, 14), (504, 0, 14), (505, 0, 14), (506, 0, 14), (507, 0, 14), (508, 0, 14), (509, 0, 14), (510, 0, 14), (511, 0, 14), (512, 0, 14), (513, 0, 14), (514, 0, 14), (515, 0, 14), (516, 0, 14), (517, 0, 14), (518, 0, 14)]
theorem cpW_k {k j : Nat} (h : k < 503) : scIn cpW k j = false := by
  unfold scIn
  rw [List.any_eq_false]
  intro w hw
  have h9 : ∀ w ∈ cpW, 503 ≤ w.1 := by decide
  have h8 := h9 w hw
  have e : (w.1 == k) = false := by
    rw [beq_eq_false_iff_ne]
    omega
  rw [e]
  simp
theorem cp_in {w : Nat} (hw : w < 16) : 503 + w ∈ [503, 504, 505, 506, 507, 508, 509, 510, 511, 512, 513, 514, 515, 516, 517, 518] := by
  rcases (show w = 0 ∨ w = 1 ∨ w = 2 ∨ w = 3 ∨ w = 4 ∨ w = 5 ∨ w = 6 ∨ w = 7 ∨ w = 8 ∨ w = 9 ∨ w = 10 ∨ w = 11 ∨ w = 12 ∨ w = 13 ∨ w = 14 ∨ w = 15 by omega) with rfl | rfl | rfl | rfl | rfl | rfl | rfl | rfl | rfl | rfl | rfl | rfl | rfl | rfl | rfl | rfl <;> decide
theorem s_keep {M : fmM} {Q : fmR → fmM → Prop} {w : Nat} (hw : w < 16) (hI : scInv Tm invM M) (hq : ∀ M' : fmM, scInv Tm invM M' → scFr cpW M M' → Q (.inl none) M') : pvGood Tm 0 qX11_copies [.ref 7, .ref (503 + w)] M Q := (hh_X11_copies_1 M [] [.ref 7, .ref (503 + w)] ⟨rfl, fun n e x he hx => by cases he⟩ ⟨⟨7, by simp, rfl⟩, ⟨503 + w, cp_in hw, rfl⟩, trivial⟩ (fun f hf => by cases hf) hI).imp (fun r M' h => by
  obtain ⟨rfl, h1, h2⟩ := sc_o0 h
  exact hq M' h1 h2)
theorem works16 {M : fmM} (hI : scInv Tm invM M) : ∃ w : Nat, (M.1 0 32).toInt = w ∧ w ≤ 16 := ⟨(M.1 0 32).toInt.toNat, by
  have h := hI.1 0 32 (by decide)
  have h1 : 0 ≤ (M.1 0 32).toInt := h.1
  omega, by
  have h := hI.1 0 32 (by decide)
  have h2 : (M.1 0 32).toInt ≤ 16 := h.2
  omega⟩
set_option maxRecDepth 20000 in
theorem wk_o1 {Q : fmR → fmM → Prop} {M : fmM} {nn : Int32} (hf : ¬ M.1 0 5 = 0) (hq : pvEv Tm 213 qX11_work 101 [some (.ref 0), some (.int nn)] [] M Q) : pvEv Tm 213 qX11_work 72 [some (.ref 0), some (.int nn)] [] M Q := by
  refine pv_aloadn (pc := 72) (n := 0) 0 rfl rfl (fm_dec dtX11_work 40 rfl) ?_
  refine pv_getI (k := 0) (j := 5) (ci := 11) (pc := 73) pfl_X11_117 (by decide) rfl (by decide) (fm_dec dtX11_work 41 rfl) ?_
  refine pv_if_ne (pc := 76) 101 (by decide) (fm_dec dtX11_work 42 rfl) (fun _ => ?_) (fun hc76 => by exfalso; exact hf hc76)
  exact hq
set_option maxRecDepth 20000 in
theorem wk_loop {tx : tX} {n l : Nat} {nn : Int32} {Q : fmR → fmM → Prop} : ∀ (f b p : Nat) (M : fmM), srPre M tx n p 0 b l → (∀ a, ¬ wkL tx n l f b p = .inl (9, a)) → (∀ (M' : fmM) (ss : tS) (q : Nat), wkL tx n l f b p = .inr ss → srOk M M' tx n q b ss → pvEv Tm 213 qX11_work 101 [some (.ref 0), some (.int nn)] [] M' Q) → (∀ (M' : fmM) (k a : Nat), wkL tx n l f b p = .inl (k, a) → srBad M M' tx n k a b → pvEv Tm 213 qX11_work 101 [some (.ref 0), some (.int nn)] [] M' Q) → pvEv Tm 213 qX11_work 72 [some (.ref 0), some (.int nn)] [] M Q := by
  intro f
  induction f with
  | zero => intro b p M hP hne hok hbad; exact absurd rfl (hne 0)
  | succ f ih =>
    intro b p M hP hne hok hbad
    refine pv_aloadn (pc := 72) (n := 0) 0 rfl rfl (fm_dec dtX11_work 40 rfl) ?_
    refine pv_getI (k := 0) (j := 5) (ci := 11) (pc := 73) pfl_X11_117 (by decide) rfl (by decide) (fm_dec dtX11_work 41 rfl) ?_
    refine pv_if_ne (pc := 76) 101 (by decide) (fm_dec dtX11_work 42 rfl) (fun hc76 => by exfalso; exact hc76 hP.2.1) (fun _ => ?_)
    refine pv_aloadn (pc := 79) (n := 0) 0 rfl rfl (fm_dec dtX11_work 43 rfl) ?_
    refine pv_getI (k := 0) (j := 4) (ci := 11) (pc := 80) pfl_X11_110 (by decide) rfl (by decide) (fm_dec dtX11_work 44 rfl) ?_
    refine pv_aloadn (pc := 83) (n := 0) 0 rfl rfl (fm_dec dtX11_work 45 rfl) ?_
    refine pv_getI (k := 0) (j := 2) (ci := 11) (pc := 84) pfl_X11_107 (by decide) rfl (by decide) (fm_dec dtX11_work 46 rfl) ?_
    refine pv_icmp_ge (pc := 87) 101 (by decide) (fm_dec dtX11_work 47 rfl) (fun hc87 => ?_) (fun hc87 => ?_)
    · exact hok M [] p (wkL_0 (by rw [sc_le, hP.1.1, hP.1.2.1] at hc87; omega)) (srOk.nil hP)
    · have hpn : ¬ n ≤ p := (by rw [sc_le, hP.1.1, hP.1.2.1] at hc87; omega)
      refine pv_aloadn (pc := 90) (n := 0) 0 rfl rfl (fm_dec dtX11_work 48 rfl) ?_
      refine pv_invV0 (k := 0) (d' := (5 + (6 - 0))) (pc := 91) pcv_X11_253 (by decide) rfl (Nat.le_of_ble_eq_true rfl) (by omega) (fm_dec dtX11_work 49 rfl) ?_
      refine (rs_all 400).1 0 b p M _ hP (fun h9 => hne 0 (wkL_1 hpn h9)) (fun M91 ss q91 e91 k91 => ?_) (fun Mb kb ab eb hB => ?_)  
      · refine pv_then0 ?_
        refine pv_aloadn (pc := 94) (n := 0) 0 rfl rfl (fm_dec dtX11_work 50 rfl) ?_
        refine pv_invV0 (k := 0) (d' := 1) (pc := 95) pcv_X11_123 (by decide) rfl (Nat.le_of_ble_eq_true rfl) (by omega) (fm_dec dtX11_work 51 rfl) ?_
        refine r_blanks k91.1 k91.2.1 (fun M95 k95 => ?_)
        refine pv_then0 ?_
        refine pv_goto (pc := 98) 72 (by decide) (fm_dec dtX11_work 52 rfl) ?_
        have hl := spSt_len hP.1.2.2.2.1 _ _ _ _ _ _ _ hP.1.2.2.1 e91
        refine ih (b + ss.length) (sk tx q91) M95 (hP.next k91 hl.1 k95) (fun a h9 => hne a (wkL_2 hpn e91 h9)) (fun M9 ts q e h => hok M9 _ q (wkL_3 hpn e91 e) (k91.app k95.2.2 (k95.2.2.2.1 8 (by decide) (by decide) (by decide)) h)) (fun M9 k a e h => hbad M9 k a (wkL_2 hpn e91 e) ⟨h.1, h.2.1, h.2.2.1, h.2.2.2.1, (k91.2.2.2.2.2.rd k95.2.2).trans h.2.2.2.2 (by omega)⟩)
      · refine pv_then0 ?_
        obtain ⟨qb, hSb⟩ := hB.1
        refine pv_aloadn (pc := 94) (n := 0) 0 rfl rfl (fm_dec dtX11_work 50 rfl) ?_
        refine pv_invV0 (k := 0) (d' := 1) (pc := 95) pcv_X11_123 (by decide) rfl (Nat.le_of_ble_eq_true rfl) (by omega) (fm_dec dtX11_work 51 rfl) ?_
        refine c_blanks hSb (fun x95 hx95 => ?_)
        refine pv_then0 ?_
        refine pv_goto (pc := 98) 72 (by decide) (fm_dec dtX11_work 52 rfl) ?_
        exact wk_o1 (srBad.nz (hB.bl hSb hx95)) (hbad _ kb ab (wkL_1 hpn eb) (hB.bl hSb hx95))
set_option maxRecDepth 20000 in
theorem wk_e1 {Q : fmR → fmM → Prop} {M : fmM} {nn : Int32} (hf : ¬ M.1 0 5 = 0) (hq : Q (.inl (some (.int (M.1 0 5 - 10)))) (fmI M 0 3 (M.1 0 6))) : pvEv Tm 213 qX11_work 101 [some (.ref 0), some (.int nn)] [] M Q := by
  refine pv_aloadn (pc := 101) (n := 0) 0 rfl rfl (fm_dec dtX11_work 53 rfl) ?_
  refine pv_getI (k := 0) (j := 5) (ci := 11) (pc := 102) pfl_X11_117 (by decide) rfl (by decide) (fm_dec dtX11_work 54 rfl) ?_
  refine pv_if_eq (pc := 105) 113 (by decide) (fm_dec dtX11_work 55 rfl) (fun hc105 => by exfalso; exact hf hc105) (fun _ => ?_)
  refine pv_aloadn (pc := 108) (n := 0) 0 rfl rfl (fm_dec dtX11_work 56 rfl) ?_
  refine pv_invV0 (k := 0) (d' := 0) (pc := 109) pcv_X11_187 (by decide) rfl (Nat.le_of_ble_eq_true rfl) (by omega) (fm_dec dtX11_work 57 rfl) ?_
  refine c_ends ?_
  refine pv_then1 ?_
  exact pv_ireturn (pc := 112) rfl (fm_dec dtX11_work 58 rfl) hq
def wkM (M : fmM) : fmM := fmI (fmI (fmI (fmI M 0 32 (M.1 0 32 + 1)) 0 36 0) 0 37 0) 0 33 0
set_option maxRecDepth 20000 in
theorem wk_e0 {Q : fmR → fmM → Prop} {M : fmM} {nn : Int32} {ss : tS} {l w : Nat} (hf : M.1 0 5 = 0) (hI : scInv Tm invM M) (hw : (M.1 0 32).toInt = w) (hw16 : w < 16) (hR : stRep M 0 ss) (hO : ssOk l 0 ss) (hn : ss.length ≤ 80) (hl : l ≤ 8) (h4 : (M.1 4 0).toInt = l) (h26 : (M.1 0 26).toInt = (ss.length : Int)) (hq : ∀ (n : Int32) (M' : fmM), scInv Tm invM M' → Q (.inl (some (.int n))) M') : pvEv Tm 213 qX11_work 101 [some (.ref 0), some (.int nn)] [] M Q := by
  refine pv_aloadn (pc := 101) (n := 0) 0 rfl rfl (fm_dec dtX11_work 53 rfl) ?_
  refine pv_getI (k := 0) (j := 5) (ci := 11) (pc := 102) pfl_X11_117 (by decide) rfl (by decide) (fm_dec dtX11_work 54 rfl) ?_
  refine pv_if_eq (pc := 105) 113 (by decide) (fm_dec dtX11_work 55 rfl) (fun _ => ?_) (fun hc105 => by exfalso; exact hc105 hf)
  refine pv_aloadn (pc := 113) (n := 0) 0 rfl rfl (fm_dec dtX11_work 59 rfl) ?_
  refine pv_iconst (pc := 114) (v := (-1)) (by decide) (fm_dec dtX11_work 60 rfl) ?_
  refine pv_putI (k := 0) (j := 3) (ci := 11) (pc := 115) pfl_X11_9 (by decide) rfl (by decide) (fm_dec dtX11_work 61 rfl) ?_
  refine pv_aloadn (pc := 118) (n := 0) 0 rfl rfl (fm_dec dtX11_work 62 rfl) ?_
  refine pv_getR (k := 0) (j := 27) (ci := 11) (pc := 119) 7 rfl (by decide) pfl_X11_61 (by decide) rfl (by decide) (fm_dec dtX11_work 63 rfl) ?_
  refine pv_aloadn (pc := 122) (n := 0) 0 rfl rfl (fm_dec dtX11_work 64 rfl) ?_
  refine pv_getR (k := 0) (j := 29) (ci := 11) (pc := 123) 25 rfl (by decide) pfl_X11_67 (by decide) rfl (by decide) (fm_dec dtX11_work 65 rfl) ?_
  refine pv_aloadn (pc := 126) (n := 0) 0 rfl rfl (fm_dec dtX11_work 66 rfl) ?_
  refine pv_getI (k := 0) (j := 32) (ci := 11) (pc := 127) pfl_X11_200 (by decide) rfl (by decide) (fm_dec dtX11_work 67 rfl) ?_
  refine pv_aald (k := 25) (n := 16) (r := (503 + w)) (pc := 130) (by decide) (Or.inr (Or.inr rfl)) rfl (rw_before.inb hw hw16) (rw_before.at hw hw16) (rw_before.2.2.2 _ hw16).2.1 (fm_dec dtX11_work 68 rfl) ?_
  refine pv_iS2 (d' := 0) (pc := 131) pcs_X11_323 (Nat.le_of_ble_eq_true rfl) (by omega) (fm_dec dtX11_work 69 rfl) ?_
  refine s_keep hw16 (hI.put (k := 0) (j := 3) (x := -1) (by decide) rfl) (fun M131 hI131 f131 => ?_) 
  refine pv_then0 ?_
  refine pv_aloadn (pc := 134) (n := 0) 0 rfl rfl (fm_dec dtX11_work 70 rfl) ?_
  refine pv_dup (pc := 135) rfl (fm_dec dtX11_work 71 rfl) ?_
  refine pv_getI (k := 0) (j := 32) (ci := 11) (pc := 136) pfl_X11_200 (by decide) rfl (by decide) (fm_dec dtX11_work 72 rfl) ?_
  refine pv_iconst (pc := 139) (v := 1) (by decide) (fm_dec dtX11_work 73 rfl) ?_
  refine pv_iadd (pc := 140) (fm_dec dtX11_work 74 rfl) ?_
  refine pv_putI (k := 0) (j := 32) (ci := 11) (pc := 141) pfl_X11_200 (by decide) rfl (by decide) (fm_dec dtX11_work 75 rfl) ?_
  refine pv_aloadn (pc := 144) (n := 0) 0 rfl rfl (fm_dec dtX11_work 76 rfl) ?_
  refine pv_iconst (pc := 145) (v := 0) (by decide) (fm_dec dtX11_work 77 rfl) ?_
  refine pv_putI (k := 0) (j := 36) (ci := 11) (pc := 146) pfl_X11_310 (by decide) rfl (by decide) (fm_dec dtX11_work 78 rfl) ?_
  refine pv_aloadn (pc := 149) (n := 0) 0 rfl rfl (fm_dec dtX11_work 79 rfl) ?_
  refine pv_iconst (pc := 150) (v := 0) (by decide) (fm_dec dtX11_work 80 rfl) ?_
  refine pv_putI (k := 0) (j := 37) (ci := 11) (pc := 151) pfl_X11_320 (by decide) rfl (by decide) (fm_dec dtX11_work 81 rfl) ?_
  refine pv_aloadn (pc := 154) (n := 0) 0 rfl rfl (fm_dec dtX11_work 82 rfl) ?_
  refine pv_iconst (pc := 155) (v := 0) (by decide) (fm_dec dtX11_work 83 rfl) ?_
  refine pv_putI (k := 0) (j := 33) (ci := 11) (pc := 156) pfl_X11_203 (by decide) rfl (by decide) (fm_dec dtX11_work 84 rfl) ?_
  have h32 : M131.1 0 32 = M.1 0 32 := (f131 0 32 rfl).1
  have hI5 : scInv Tm invM (wkM M131) := (by unfold wkM; refine inv_c0g (inv_c0g (inv_c0g (hI131.put (k := 0) (j := 32) ?_ rfl) (Or.inr (Or.inl rfl))) (Or.inr (Or.inr rfl))) (Or.inl rfl); rw [h32]; have h9 := i32_p1 hw (by omega); exact ⟨by show (0 : Int) ≤ _; omega, by show _ ≤ (16 : Int); omega⟩)
  have ek : ∀ k j, k ≠ 0 → k < 503 → (wkM M131).1 k j = M.1 k j := fun k j h0 h1 => (by unfold wkM; rw [fmI_k _ _ h0, fmI_k _ _ h0, fmI_k _ _ h0, fmI_k _ _ h0, (f131 k j (cpW_k h1)).1, fmI_k _ _ h0])
  have e26 : (wkM M131).1 0 26 = M.1 0 26 := (by unfold wkM; rw [fmI_j _ _ (by decide), fmI_j _ _ (by decide), fmI_j _ _ (by decide), fmI_j _ _ (by decide), (f131 0 26 rfl).1, fmI_j _ _ (by decide)])
  have hG5 : gSt (wkM M131) ss.length l 0 := gSt_of (hR.of (by omega) (fun k j a b => ek k j (by omega) b)) hO hn hl (by rw [ek 4 0 (by decide) (by decide)]; exact h4) hI5 rfl
  refine pv_aloadn (pc := 159) (n := 0) 0 rfl rfl (fm_dec dtX11_work 85 rfl) ?_
  refine pv_iconst (pc := 160) (v := 0) (by decide) (fm_dec dtX11_work 86 rfl) ?_
  refine pv_aloadn (pc := 161) (n := 0) 0 rfl rfl (fm_dec dtX11_work 87 rfl) ?_
  refine pv_getI (k := 0) (j := 26) (ci := 11) (pc := 162) pfl_X11_250 (by decide) rfl (by decide) (fm_dec dtX11_work 88 rfl) ?_
  refine pv_invV2 (k := 0) (d' := (12 + 200)) (pc := 165) pcv_X11_313 (by decide) rfl (Nat.le_of_ble_eq_true rfl) (by omega) (fm_dec dtX11_work 89 rfl) ?_
  refine gs_G (gs_P 200) _ _ ss.length l 0 0 ss.length 0 _ hG5 (by omega) (by decide) ((congrArg Int32.toInt e26).trans h26) (Nat.le_refl _) (fun M165 g165 hI165 f165 hg165 _ _ => ?_) 
  refine pv_then0 ?_
  refine pv_aloadn (pc := 168) (n := 0) 0 rfl rfl (fm_dec dtX11_work 90 rfl) ?_
  refine pv_getI (k := 0) (j := 37) (ci := 11) (pc := 169) pfl_X11_320 (by decide) rfl (by decide) (fm_dec dtX11_work 91 rfl) ?_
  exact pv_ireturn (pc := 172) rfl (fm_dec dtX11_work 92 rfl) (hq _ M165 hI165)
set_option maxRecDepth 20000 in
theorem t_work {M : fmM} {Q : fmR → fmM → Prop} {nn : Int32} (hI : scInv Tm invM M) (hq : ∀ (r : fmR) (M' : fmM), tI r → scInv Tm invM M' → Q r M') : pvGood Tm 213 qX11_work [.ref 0, .int nn] M Q := by
  refine pvGood_of (Nat.le_of_ble_eq_true rfl) ?_
  show pvEv Tm 213 qX11_work 0 [some (.ref 0), some (.int nn)] [] M Q
  obtain ⟨l, h4, hl⟩ := told8 hI
  obtain ⟨w, hw, hw16⟩ := works16 hI
  have hI0 := hI.p00 (x := 0) (Or.inl rfl)
  have hfed := inv_fed hI
  refine pv_aloadn (pc := 0) (n := 0) 0 rfl rfl (fm_dec dtX11_work 0 rfl) ?_
  refine pv_iconst (pc := 1) (v := 0) (by decide) (fm_dec dtX11_work 1 rfl) ?_
  refine pv_putI (k := 0) (j := 0) (ci := 11) (pc := 2) pfl_X11_101 (by decide) rfl (by decide) (fm_dec dtX11_work 2 rfl) ?_
  refine pv_aloadn (pc := 5) (n := 0) 0 rfl rfl (fm_dec dtX11_work 3 rfl) ?_
  refine pv_iloadn (pc := 6) (n := 1) 1 rfl rfl (fm_dec dtX11_work 4 rfl) ?_
  refine pv_iconst (pc := 7) (v := 0) (by decide) (fm_dec dtX11_work 5 rfl) ?_
  refine pv_aloadn (pc := 8) (n := 0) 0 rfl rfl (fm_dec dtX11_work 6 rfl) ?_
  refine pv_getI (k := 0) (j := 1) (ci := 11) (pc := 9) pfl_X11_104 (by decide) rfl (by decide) (fm_dec dtX11_work 7 rfl) ?_
  refine pv_iS3 (d' := 0) (pc := 12) pcs_X11_135 (Nat.le_of_ble_eq_true rfl) (by decide) (fm_dec dtX11_work 8 rfl) ?_
  refine c_in (fun h12a h12b => ?_) (fun h12 => ?_)
  · refine pv_then1 ?_
    refine pv_if_eq (pc := 15) 25 (by decide) (fm_dec dtX11_work 9 rfl) (fun hc15 => by exfalso; revert hc15; decide) (fun _ => ?_)
    refine pv_iloadn (pc := 18) (n := 1) 1 rfl rfl (fm_dec dtX11_work 10 rfl) ?_
    refine pv_sipush (pc := 19) (v := 150) (by decide) (fm_dec dtX11_work 11 rfl) ?_
    refine pv_icmp_le (pc := 22) 29 (by decide) (fm_dec dtX11_work 12 rfl) (fun hc22 => ?_) (fun hc22 => ?_)
    · refine pv_iconst (pc := 29) (v := 0) (by decide) (fm_dec dtX11_work 15 rfl) ?_
      refine pv_iconst (pc := 30) (v := 1) (by decide) (fm_dec dtX11_work 16 rfl) ?_
      refine pv_iconst (pc := 31) (v := 1) (by decide) (fm_dec dtX11_work 17 rfl) ?_
      refine pv_invV3 (k := 0) (d' := 0) (pc := 32) pcv_X11_177 (by decide) rfl (Nat.le_of_ble_eq_true rfl) (by decide) (fm_dec dtX11_work 18 rfl) ?_
      refine c_badF1 rfl ?_
      refine pv_then1 ?_
      refine pv_if_eq (pc := 35) 40 (by decide) (fm_dec dtX11_work 19 rfl) (fun _ => ?_) (fun hc35 => by exfalso; revert hc35; decide)
      refine pv_aloadn (pc := 40) (n := 0) 0 rfl rfl (fm_dec dtX11_work 22 rfl) ?_
      refine pv_getI (k := 0) (j := 32) (ci := 11) (pc := 41) pfl_X11_200 (by decide) rfl (by decide) (fm_dec dtX11_work 23 rfl) ?_
      refine pv_bipush (pc := 44) (v := 16) (by decide) (fm_dec dtX11_work 24 rfl) ?_
      refine pv_icmp_ne (pc := 46) 62 (by decide) (fm_dec dtX11_work 25 rfl) (fun hc46 => ?_) (fun hc46 => ?_)
      · obtain ⟨n0, hn0⟩ : ∃ n0 : Nat, nn.toInt = n0 := ⟨nn.toInt.toNat, by have h9 : (0 : Int32).toInt = 0 := (by decide); omega⟩
        have hn150 : n0 ≤ 150 := (by have h9 := hc22; rw [sc_le] at h9; have h8 : (150 : Int32).toInt = 150 := (by decide); omega)
        have hn6 : n0 ≤ 600 := (by omega)
        refine pv_aloadn (pc := 62) (n := 0) 0 rfl rfl (fm_dec dtX11_work 34 rfl) ?_
        refine pv_iloadn (pc := 63) (n := 1) 1 rfl rfl (fm_dec dtX11_work 35 rfl) ?_
        refine pv_invV1 (k := 0) (d' := 2) (pc := 64) pcv_X11_181 (by decide) rfl (Nat.le_of_ble_eq_true rfl) (by omega) (fm_dec dtX11_work 36 rfl) ?_
        refine c_starts (n := n0) (M := fmI M 0 0 0) hfed hn6 hn0 (fun M64 h64 => ?_) 
        refine pv_then0 ?_
        refine pv_aloadn (pc := 67) (n := 0) 0 rfl rfl (fm_dec dtX11_work 37 rfl) ?_
        refine pv_iconst (pc := 68) (v := 0) (by decide) (fm_dec dtX11_work 38 rfl) ?_
        refine pv_putI (k := 0) (j := 26) (ci := 11) (pc := 69) pfl_X11_250 (by decide) rfl (by decide) (fm_dec dtX11_work 39 rfl) ?_
        have hI64 := inv_st hI h64
        have hok9 := rT_ok (n := n0) hfed hn6
        have hs0 : sk (rT M n0) 0 ≤ n0 := sp_le tB_1 hok9 (Nat.zero_le _)
        have hIs : scInv Tm invM (fmI M64 0 26 0) := hI64.put (scq_t 0) rfl
        have h4s : ((fmI M64 0 26 0).1 4 0).toInt = l := (by rw [fmI_k _ _ (by decide), st_k h64 (by decide)]; exact h4)
        have hP : srPre (fmI M64 0 26 0) (rT M n0) n0 (sk (rT M n0) 0) 0 0 l := ⟨h64.1.of rfl rfl rfl, h64.2.1, (by show (M64.1 0 8).toInt = _; rw [h64.2.2.1]; decide), by decide, (by rw [fmI_s]; decide), by omega, hn150, h4s, hl⟩
        have hbd := fun e he => wkL_bad hok9 hn150 700 0 (sk (rT M n0) 0) e hs0 (by omega) he (l := l)
        refine wk_loop (l := l) 700 0 _ _ hP (fun a h9 => by have h8 := (hbd _ h9).1.2; exact absurd h8 (show ¬ 9 ≤ 3 by decide)) (fun M2 ss q e h => ?_) (fun M2 k a e hB => ?_)
        · have g := wkL_ok hok9 700 0 _ ss hs0 e
          refine wk_e0 (l := l) (w := w) h.2.1 (inv_sr hIs h.2.2.2.2.2) (by rw [h.2.2.2.2.2.2.1 32 (by decide) (by decide) (by decide) (by decide) (by decide), fmI_j _ _ (by decide), st_j h64 (by decide)]; exact hw) (by have h9 : ¬ w = 16 := (fun h9 => hc46 (i32_ext (hw.trans (by rw [h9]; decide)))); omega) h.2.2.2.2.1 g.1 (by omega) hl (by rw [h.2.2.2.2.2.1 4 0 (by decide) (by omega)]; exact h4s) (by rw [h.2.2.2.1]; congr 1; omega) (fun n M9 h9 => hq _ _ ⟨n, rfl⟩ h9)
        · have hk := hbd _ e
          refine wk_e1 hB.nz (hq _ _ ⟨_, rfl⟩ ((inv_sr hIs hB.2.2.2.2).put (k := 0) (j := 3) ?_ rfl))
          rw [hB.2.2.1]
          exact ⟨by show (-1 : Int) ≤ _; omega, by show _ ≤ (600 : Int); have h9 : a ≤ n0 := hk.2; omega⟩
      · refine pv_aloadn (pc := 49) (n := 0) 0 rfl rfl (fm_dec dtX11_work 26 rfl) ?_
        refine pv_iconst (pc := 50) (v := 0) (by decide) (fm_dec dtX11_work 27 rfl) ?_
        refine pv_putI (k := 0) (j := 1) (ci := 11) (pc := 51) pfl_X11_104 (by decide) rfl (by decide) (fm_dec dtX11_work 28 rfl) ?_
        refine pv_aloadn (pc := 54) (n := 0) 0 rfl rfl (fm_dec dtX11_work 29 rfl) ?_
        refine pv_iconst (pc := 55) (v := (-1)) (by decide) (fm_dec dtX11_work 30 rfl) ?_
        refine pv_putI (k := 0) (j := 3) (ci := 11) (pc := 56) pfl_X11_9 (by decide) rfl (by decide) (fm_dec dtX11_work 31 rfl) ?_
        refine pv_bipush (pc := 59) (v := (-20)) (by decide) (fm_dec dtX11_work 32 rfl) ?_
        exact pv_ireturn (pc := 61) rfl (fm_dec dtX11_work 33 rfl) (hq _ _ ⟨_, rfl⟩ ((hI0.put (k := 0) (j := 1) (x := 0) (by decide) rfl).put (k := 0) (j := 3) (x := -1) (by decide) rfl))
    · refine pv_iconst (pc := 25) (v := 1) (by decide) (fm_dec dtX11_work 13 rfl) ?_
      refine pv_goto (pc := 26) 30 (by decide) (fm_dec dtX11_work 14 rfl) ?_
      refine pv_iconst (pc := 30) (v := 1) (by decide) (fm_dec dtX11_work 16 rfl) ?_
      refine pv_iconst (pc := 31) (v := 1) (by decide) (fm_dec dtX11_work 17 rfl) ?_
      refine pv_invV3 (k := 0) (d' := 0) (pc := 32) pcv_X11_177 (by decide) rfl (Nat.le_of_ble_eq_true rfl) (by decide) (fm_dec dtX11_work 18 rfl) ?_
      refine c_badT1 rfl (by decide) ?_
      refine pv_then1 ?_
      refine pv_if_eq (pc := 35) 40 (by decide) (fm_dec dtX11_work 19 rfl) (fun hc35 => by exfalso; revert hc35; decide) (fun _ => ?_)
      refine pv_iconst (pc := 38) (v := 0) (by decide) (fm_dec dtX11_work 20 rfl) ?_
      exact pv_ireturn (pc := 39) rfl (fm_dec dtX11_work 21 rfl) (hq _ _ ⟨_, rfl⟩ (inv_rf hI (Or.inr (Or.inl rfl))))
  · refine pv_then1 ?_
    refine pv_if_eq (pc := 15) 25 (by decide) (fm_dec dtX11_work 9 rfl) (fun _ => ?_) (fun hc15 => by exfalso; revert hc15; decide)
    refine pv_iconst (pc := 25) (v := 1) (by decide) (fm_dec dtX11_work 13 rfl) ?_
    refine pv_goto (pc := 26) 30 (by decide) (fm_dec dtX11_work 14 rfl) ?_
    refine pv_iconst (pc := 30) (v := 1) (by decide) (fm_dec dtX11_work 16 rfl) ?_
    refine pv_iconst (pc := 31) (v := 1) (by decide) (fm_dec dtX11_work 17 rfl) ?_
    refine pv_invV3 (k := 0) (d' := 0) (pc := 32) pcv_X11_177 (by decide) rfl (Nat.le_of_ble_eq_true rfl) (by decide) (fm_dec dtX11_work 18 rfl) ?_
    refine c_badT1 rfl (by decide) ?_
    refine pv_then1 ?_
    refine pv_if_eq (pc := 35) 40 (by decide) (fm_dec dtX11_work 19 rfl) (fun hc35 => by exfalso; revert hc35; decide) (fun _ => ?_)
    refine pv_iconst (pc := 38) (v := 0) (by decide) (fm_dec dtX11_work 20 rfl) ?_
    exact pv_ireturn (pc := 39) rfl (fm_dec dtX11_work 21 rfl) (hq _ _ ⟨_, rfl⟩ (inv_rf hI (Or.inr (Or.inl rfl))))
