/-- a step as it stands at b, of n, with l lives -/
def gStep (M : fmM) (l b n : Nat) : Prop := ∃ kd v e : Nat, (M.1 (423 + b) 0).toInt = kd ∧ kd ≤ 4 ∧ (kd < 3 → (M.1 (423 + b) 1).toInt = v ∧ v < l) ∧ (kd = 4 → (M.1 (423 + b) 1).toInt = v ∧ v ≤ 20) ∧ (M.1 (423 + b) 2).toInt = e ∧ b < e ∧ e ≤ n
def gSt (M : fmM) (n l g : Nat) : Prop := n ≤ 80 ∧ l ≤ 8 ∧ (M.1 4 0).toInt = l ∧ (∀ b, b < n → gStep M l b n) ∧ scInv Tm invM M ∧ (M.1 0 36).toInt = (g : Int) ∧ g ≤ 200
theorem gsW_k {k j : Nat} (h : k = 4 ∨ 423 ≤ k) : scIn gsW k j = false := by
  simp only [scIn, List.any_cons, List.any_nil, Bool.or_false]
  have e : ∀ q : Nat, (q = 0 ∨ q = 5 ∨ q = 6 ∨ q = 7) → (q == k) = false := fun q hq => by
    rw [beq_eq_false_iff_ne]
    omega
  rw [e 0 (by omega), e 5 (by omega), e 6 (by omega), e 7 (by omega)]
  rfl
theorem gSt.fr {M M' : fmM} {n l g g' : Nat} (h : gSt M n l g) (hf : scFr gsW M M') (hI : scInv Tm invM M') (hg : (M'.1 0 36).toInt = (g' : Int)) (h2 : g' ≤ 200) : gSt M' n l g' := by
  obtain ⟨a1, a2, a3, a4, a5, a6, a7⟩ := h
  refine ⟨a1, a2, (by rw [(hf 4 0 rfl).1]; exact a3), fun b hb => ?_, hI, hg, h2⟩
  obtain ⟨kd, v, e, b1, b2, b3, b4, b5, b6, b7⟩ := a4 b hb
  have e9 : ∀ j, M'.1 (423 + b) j = M.1 (423 + b) j := fun j => (hf _ _ (gsW_k (by omega))).1
  exact ⟨kd, v, e, by rw [e9]; exact b1, b2, fun h => by rw [e9]; exact b3 h, fun h => by rw [e9]; exact b4 h, by rw [e9]; exact b5, b6, b7⟩
theorem gsFr.trans {M M1 M2 : fmM} (h : scFr gsW M M1) (h' : scFr gsW M1 M2) : scFr gsW M M2 := scFr.trans h h' (by decide)
theorem dsFr.gs {M M1 M2 : fmM} (h : scFr gsW M M1) (h' : scFr dsW M1 M2) : scFr gsW M M2 := scFr.trans h h' (by decide)
theorem inv_c0g {M : fmM} {j : Nat} {x : Int32} (hI : scInv Tm invM M) (hj : j = 33 ∨ j = 36 ∨ j = 37) : scInv Tm invM (fmI M 0 j x) := by
  rcases hj with rfl | rfl | rfl <;> exact hI.put (scq_t x) rfl
theorem fr_c0g {M0 M : fmM} {j : Nat} {x : Int32} (h : scFr gsW M0 M) (hj : j = 33 ∨ j = 36 ∨ j = 37) : scFr gsW M0 (fmI M 0 j x) := by
  rcases hj with rfl | rfl | rfl <;> exact scFr.toI h rfl
/-- the end of steps from begun g -/
def gsE (Q : fmR → fmM → Prop) (M : fmM) (g : Nat) : Prop := ∀ (M' : fmM) (g' : Nat), scInv Tm invM M' → scFr gsW M M' → (M'.1 0 36).toInt = (g' : Int) → g ≤ g' → g' ≤ 200 → Q (.inl none) M'
theorem gsE.fr {Q : fmR → fmM → Prop} {M M1 : fmM} {g g1 : Nat} (h : gsE Q M g) (hf : scFr gsW M M1) (hg : g ≤ g1) : gsE Q M1 g1 := fun M' g' a b c d e => h M' g' a (gsFr.trans hf b) c (by omega) e
def gsP (m : Nat) : Prop := ∀ (M : fmM) (Q : fmR → fmM → Prop) (n l g sN tN : Nat) (fr to s : Int32) (v4 : Option Value), gSt M n l g → g + m = 200 → s.toInt = sN → to.toInt = tN → tN ≤ n → gsE Q M g → pvEv Tm (12 + m) qX11_goes 2 [some (.ref 0), some (.int fr), some (.int to), some (.int s), v4] [] M Q
def gsG (m : Nat) : Prop := ∀ (M : fmM) (Q : fmR → fmM → Prop) (n l g sN tN : Nat) (s to : Int32), gSt M n l g → g + m = 200 → s.toInt = sN → to.toInt = tN → tN ≤ n → gsE Q M g → pvGood Tm (12 + m) qX11_goes [.ref 0, .int s, .int to] M Q
set_option maxRecDepth 20000 in
theorem gs_t {Q : fmR → fmM → Prop} {m : Nat} (ih : ∀ m' : Nat, m' < m → gsP m') {M : fmM} {n l g sN tN : Nat} {fr to s : Int32} {v4 : Option Value} (hG : gSt M n l g) (hg : 200 - g < m) (hs : s.toInt = sN) (hsn : sN < n) (ht : to.toInt = tN) (htn : tN ≤ n) (hq : gsE Q M g) : pvEv Tm (12 + m) qX11_goes 143 [some (.ref 0), some (.int fr), some (.int to), some (.int s), v4] [] M Q := by
  have hs80 : sN < 80 := (by have := hG.1; omega)
  obtain ⟨kd, v, e, b1, b2, b3, b4, b5, b6, b7⟩ := hG.2.2.2.1 sN hsn
  refine pv_aloadn (pc := 143) (n := 0) 0 rfl rfl (fm_dec dtX11_goes 80 rfl) ?_
  refine pv_getR (k := 0) (j := 25) (ci := 11) (pc := 144) 24 rfl (by decide) pfl_X11_58 (by decide) rfl (by decide) (fm_dec dtX11_goes 81 rfl) ?_
  refine pv_iloadn (pc := 147) (n := 3) 3 rfl rfl (fm_dec dtX11_goes 82 rfl) ?_
  refine pv_aald (k := 24) (n := 80) (r := (423 + sN)) (pc := 148) (by decide) (Or.inr (Or.inr rfl)) rfl (rw_step.inb hs hs80) (rw_step.at hs hs80) (rw_step.2.2.2 _ hs80).2.1 (fm_dec dtX11_goes 83 rfl) ?_
  refine pv_iconst (pc := 149) (v := 2) (by decide) (fm_dec dtX11_goes 84 rfl) ?_
  refine pv_iald (k := (423 + sN)) (n := 3) (pc := 150) (rw_step.2.2.2 _ hs80).2.2.1 (rw_step.2.2.2 _ hs80).2.2.2.1 (rw_step.2.2.2 _ hs80).2.2.2.2 (fm_inl (by decide)) (fm_dec dtX11_goes 85 rfl) ?_
  refine pv_istoren (pc := 151) (n := 3) 3 rfl (by decide) rfl (fm_dec dtX11_goes 86 rfl) ?_
  dsimp only [List.set_cons_zero, List.set_cons_succ]
  refine pv_goto (pc := 152) 2 (by decide) (fm_dec dtX11_goes 87 rfl) ?_
  exact (ih (200 - g) hg M Q n l g e tN _ _ _ _ hG (by have := hG.2.2.2.2.2.2; omega) b5 ht htn hq).up (by omega)
set_option maxRecDepth 20000 in
theorem gs_in {Q : fmR → fmM → Prop} {m : Nat} (hGG : ∀ m' : Nat, m' < m → gsG m') {n l sN v : Nat} {fr to s : Int32} (hs : s.toInt = sN) (hsn : sN < n) (hv20 : v ≤ 20) : ∀ (q : Nat) (M : fmM) (g c : Nat) (cc : Int32), gSt M n l g → 200 - g < m → (M.1 (423 + sN) 1).toInt = v → cc.toInt = c → c + q = v → (∀ (M' : fmM) (g' : Nat) (v4 : Option Value), gSt M' n l g' → scFr gsW M M' → g ≤ g' → pvEv Tm (12 + m) qX11_goes 143 [some (.ref 0), some (.int fr), some (.int to), some (.int s), v4] [] M' Q) → pvEv Tm (12 + m) qX11_goes 42 [some (.ref 0), some (.int fr), some (.int to), some (.int s), some (.int cc)] [] M Q := by
  intro q
  induction q with
  | zero =>
    intro M g c cc hG hg hv hc hcq hq
    have hs80 : sN < 80 := (by have := hG.1; omega)
    refine pv_iload (pc := 42) (i := 4) rfl (fm_dec dtX11_goes 25 rfl) ?_
    refine pv_aloadn (pc := 44) (n := 0) 0 rfl rfl (fm_dec dtX11_goes 26 rfl) ?_
    refine pv_getR (k := 0) (j := 25) (ci := 11) (pc := 45) 24 rfl (by decide) pfl_X11_58 (by decide) rfl (by decide) (fm_dec dtX11_goes 27 rfl) ?_
    refine pv_iloadn (pc := 48) (n := 3) 3 rfl rfl (fm_dec dtX11_goes 28 rfl) ?_
    refine pv_aald (k := 24) (n := 80) (r := (423 + sN)) (pc := 49) (by decide) (Or.inr (Or.inr rfl)) rfl (rw_step.inb hs hs80) (rw_step.at hs hs80) (rw_step.2.2.2 _ hs80).2.1 (fm_dec dtX11_goes 29 rfl) ?_
    refine pv_iconst (pc := 50) (v := 1) (by decide) (fm_dec dtX11_goes 30 rfl) ?_
    refine pv_iald (k := (423 + sN)) (n := 3) (pc := 51) (rw_step.2.2.2 _ hs80).2.2.1 (rw_step.2.2.2 _ hs80).2.2.2.1 (rw_step.2.2.2 _ hs80).2.2.2.2 (fm_inl (by decide)) (fm_dec dtX11_goes 31 rfl) ?_
    refine pv_icmp_ge (pc := 52) 86 (by decide) (fm_dec dtX11_goes 32 rfl) (fun _ => ?_) (fun hc52 => by exfalso; apply hc52; rw [sc_le]; have h9 : (M.1 (423 + sN) (Int32.toNatClampNeg 1)).toInt = v := hv; omega)
    refine pv_goto (pc := 86) 143 (by decide) (fm_dec dtX11_goes 50 rfl) ?_
    exact hq M g _ hG scFr.rfl (Nat.le_refl _)
  | succ q ih =>
    intro M g c cc hG hg hv hc hcq hq
    have hs80 : sN < 80 := (by have := hG.1; omega)
    obtain ⟨kd, v9, e, b1, b2, b3, b4, b5, b6, b7⟩ := hG.2.2.2.1 sN hsn
    refine pv_iload (pc := 42) (i := 4) rfl (fm_dec dtX11_goes 25 rfl) ?_
    refine pv_aloadn (pc := 44) (n := 0) 0 rfl rfl (fm_dec dtX11_goes 26 rfl) ?_
    refine pv_getR (k := 0) (j := 25) (ci := 11) (pc := 45) 24 rfl (by decide) pfl_X11_58 (by decide) rfl (by decide) (fm_dec dtX11_goes 27 rfl) ?_
    refine pv_iloadn (pc := 48) (n := 3) 3 rfl rfl (fm_dec dtX11_goes 28 rfl) ?_
    refine pv_aald (k := 24) (n := 80) (r := (423 + sN)) (pc := 49) (by decide) (Or.inr (Or.inr rfl)) rfl (rw_step.inb hs hs80) (rw_step.at hs hs80) (rw_step.2.2.2 _ hs80).2.1 (fm_dec dtX11_goes 29 rfl) ?_
    refine pv_iconst (pc := 50) (v := 1) (by decide) (fm_dec dtX11_goes 30 rfl) ?_
    refine pv_iald (k := (423 + sN)) (n := 3) (pc := 51) (rw_step.2.2.2 _ hs80).2.2.1 (rw_step.2.2.2 _ hs80).2.2.2.1 (rw_step.2.2.2 _ hs80).2.2.2.2 (fm_inl (by decide)) (fm_dec dtX11_goes 31 rfl) ?_
    refine pv_icmp_ge (pc := 52) 86 (by decide) (fm_dec dtX11_goes 32 rfl) (fun hc52 => ?_) (fun hc52 => ?_)
    · refine pv_goto (pc := 86) 143 (by decide) (fm_dec dtX11_goes 50 rfl) ?_
      exact hq M g _ hG scFr.rfl (Nat.le_refl _)
    · have hlt : c < v := (by have h9 : (M.1 (423 + sN) (Int32.toNatClampNeg 1)).toInt = v := hv; rw [sc_le] at hc52; omega)
      refine pv_aloadn (pc := 55) (n := 0) 0 rfl rfl (fm_dec dtX11_goes 33 rfl) ?_
      refine pv_getI (k := 0) (j := 36) (ci := 11) (pc := 56) pfl_X11_310 (by decide) rfl (by decide) (fm_dec dtX11_goes 34 rfl) ?_
      refine pv_sipush (pc := 59) (v := 200) (by decide) (fm_dec dtX11_goes 35 rfl) ?_
      refine pv_icmp_ge (pc := 62) 86 (by decide) (fm_dec dtX11_goes 36 rfl) (fun hc62 => ?_) (fun hc62 => ?_)
      · refine pv_goto (pc := 86) 143 (by decide) (fm_dec dtX11_goes 50 rfl) ?_
        exact hq M g _ hG scFr.rfl (Nat.le_refl _)
      · refine pv_aloadn (pc := 65) (n := 0) 0 rfl rfl (fm_dec dtX11_goes 37 rfl) ?_
        refine pv_iloadn (pc := 66) (n := 3) 3 rfl rfl (fm_dec dtX11_goes 38 rfl) ?_
        refine pv_iconst (pc := 67) (v := 1) (by decide) (fm_dec dtX11_goes 39 rfl) ?_
        refine pv_iadd (pc := 68) (fm_dec dtX11_goes 40 rfl) ?_
        refine pv_aloadn (pc := 69) (n := 0) 0 rfl rfl (fm_dec dtX11_goes 41 rfl) ?_
        refine pv_getR (k := 0) (j := 25) (ci := 11) (pc := 70) 24 rfl (by decide) pfl_X11_58 (by decide) rfl (by decide) (fm_dec dtX11_goes 42 rfl) ?_
        refine pv_iloadn (pc := 73) (n := 3) 3 rfl rfl (fm_dec dtX11_goes 43 rfl) ?_
        refine pv_aald (k := 24) (n := 80) (r := (423 + sN)) (pc := 74) (by decide) (Or.inr (Or.inr rfl)) rfl (rw_step.inb hs hs80) (rw_step.at hs hs80) (rw_step.2.2.2 _ hs80).2.1 (fm_dec dtX11_goes 44 rfl) ?_
        refine pv_iconst (pc := 75) (v := 2) (by decide) (fm_dec dtX11_goes 45 rfl) ?_
        refine pv_iald (k := (423 + sN)) (n := 3) (pc := 76) (rw_step.2.2.2 _ hs80).2.2.1 (rw_step.2.2.2 _ hs80).2.2.2.1 (rw_step.2.2.2 _ hs80).2.2.2.2 (fm_inl (by decide)) (fm_dec dtX11_goes 46 rfl) ?_
        refine pv_invV2 (k := 0) (d' := (12 + (200 - g))) (pc := 77) pcv_X11_313 (by decide) rfl (Nat.le_of_ble_eq_true rfl) (by omega) (fm_dec dtX11_goes 47 rfl) ?_
        refine hGG (200 - g) hg M _ n l g (sN + 1) e (s + 1) _ hG (by have := hG.2.2.2.2.2.2; omega) (i32_p1 hs (by omega)) b5 b7 (fun M77 g77 hI77 f77 hg77 a77 c77 => ?_) 
        refine pv_then0 ?_
        refine pv_iincc (pc := 80) 4 1 (by decide) rfl (by decide) rfl (fm_dec dtX11_goes 48 rfl) ?_
        dsimp only [List.set_cons_zero, List.set_cons_succ]
        refine pv_goto (pc := 83) 42 (by decide) (fm_dec dtX11_goes 49 rfl) ?_
        refine ih M77 g77 (c + 1) _ (hG.fr f77 hI77 hg77 c77) (by omega) (by rw [(f77 _ _ (gsW_k (by omega))).1]; exact hv) (i32_p1 hc (by omega)) (by have h9 := hlt; omega) (fun M9 g9 v9 a b d => hq M9 g9 v9 a (gsFr.trans f77 b) (by omega))
theorem gs_G {m : Nat} (h : gsP m) : gsG m := by
  intro M Q n l g sN tN s to hG hm hs ht htn hq
  refine pvGood_of (Nat.le_of_ble_eq_true rfl) ?_
  show pvEv Tm (12 + m) qX11_goes 0 [some (.ref 0), some (.int s), some (.int to), none, none] [] M Q
  refine pv_iloadn (pc := 0) (n := 1) 1 rfl rfl (fm_dec dtX11_goes 0 rfl) ?_
  refine pv_istoren (pc := 1) (n := 3) 3 rfl (by decide) rfl (fm_dec dtX11_goes 1 rfl) ?_
  dsimp only [List.set_cons_zero, List.set_cons_succ]
  exact h M Q n l g sN tN s to s none hG hm hs ht htn hq
set_option maxRecDepth 20000 in
theorem gs_P : ∀ m, gsP m := by
  intro m
  induction m using Nat.strongRecOn with
  | _ m ih =>
    intro M Q n l g sN tN fr to s v4 hG hm hs ht htn hq
    have h36 := hG.2.2.2.2.2.1
    refine pv_iloadn (pc := 2) (n := 3) 3 rfl rfl (fm_dec dtX11_goes 2 rfl) ?_
    refine pv_iloadn (pc := 3) (n := 2) 2 rfl rfl (fm_dec dtX11_goes 3 rfl) ?_
    refine pv_icmp_ge (pc := 4) 155 (by decide) (fm_dec dtX11_goes 4 rfl) (fun hc4 => ?_) (fun hc4 => ?_)
    · exact pv_return (pc := 155) rfl (fm_dec dtX11_goes 88 rfl) (hq M g hG.2.2.2.2.1 scFr.rfl h36 (Nat.le_refl _) hG.2.2.2.2.2.2)
    · refine pv_aloadn (pc := 7) (n := 0) 0 rfl rfl (fm_dec dtX11_goes 5 rfl) ?_
      refine pv_getI (k := 0) (j := 36) (ci := 11) (pc := 8) pfl_X11_310 (by decide) rfl (by decide) (fm_dec dtX11_goes 6 rfl) ?_
      refine pv_sipush (pc := 11) (v := 200) (by decide) (fm_dec dtX11_goes 7 rfl) ?_
      refine pv_icmp_ge (pc := 14) 155 (by decide) (fm_dec dtX11_goes 8 rfl) (fun hc14 => ?_) (fun hc14 => ?_)
      · exact pv_return (pc := 155) rfl (fm_dec dtX11_goes 88 rfl) (hq M g hG.2.2.2.2.1 scFr.rfl h36 (Nat.le_refl _) hG.2.2.2.2.2.2)
      · have hg2 : g < 200 := (by rw [sc_le] at hc14; have h9 : (200 : Int32).toInt = 200 := (by decide); omega)
        have hsn : sN < n := (by rw [sc_le] at hc4; omega)
        have hs80 : sN < 80 := (by have := hG.1; omega)
        obtain ⟨kd, v, e, b1, b2, b3, b4, b5, b6, b7⟩ := hG.2.2.2.1 sN hsn
        have hI1 := inv_c0g (x := M.1 0 36 + 1) hG.2.2.2.2.1 (Or.inr (Or.inl rfl))
        have f1 := fr_c0g (x := M.1 0 36 + 1) (scFr.rfl (M := M)) (Or.inr (Or.inl rfl))
        have h1r : ∀ j, (fmI M 0 36 (M.1 0 36 + 1)).1 (423 + sN) j = M.1 (423 + sN) j := fun j => by rw [fmI_k _ _ (by omega)]
        have hG1 : gSt (fmI M 0 36 (M.1 0 36 + 1)) n l (g + 1) := hG.fr f1 hI1 (by rw [fmI_s]; exact i32_p1 h36 (by omega)) (by omega)
        refine pv_aloadn (pc := 17) (n := 0) 0 rfl rfl (fm_dec dtX11_goes 9 rfl) ?_
        refine pv_dup (pc := 18) rfl (fm_dec dtX11_goes 10 rfl) ?_
        refine pv_getI (k := 0) (j := 36) (ci := 11) (pc := 19) pfl_X11_310 (by decide) rfl (by decide) (fm_dec dtX11_goes 11 rfl) ?_
        refine pv_iconst (pc := 22) (v := 1) (by decide) (fm_dec dtX11_goes 12 rfl) ?_
        refine pv_iadd (pc := 23) (fm_dec dtX11_goes 13 rfl) ?_
        refine pv_putI (k := 0) (j := 36) (ci := 11) (pc := 24) pfl_X11_310 (by decide) rfl (by decide) (fm_dec dtX11_goes 14 rfl) ?_
        refine pv_aloadn (pc := 27) (n := 0) 0 rfl rfl (fm_dec dtX11_goes 15 rfl) ?_
        refine pv_getR (k := 0) (j := 25) (ci := 11) (pc := 28) 24 rfl (by decide) pfl_X11_58 (by decide) rfl (by decide) (fm_dec dtX11_goes 16 rfl) ?_
        refine pv_iloadn (pc := 31) (n := 3) 3 rfl rfl (fm_dec dtX11_goes 17 rfl) ?_
        refine pv_aald (k := 24) (n := 80) (r := (423 + sN)) (pc := 32) (by decide) (Or.inr (Or.inr rfl)) rfl (rw_step.inb hs hs80) (rw_step.at hs hs80) (rw_step.2.2.2 _ hs80).2.1 (fm_dec dtX11_goes 18 rfl) ?_
        refine pv_iconst (pc := 33) (v := 0) (by decide) (fm_dec dtX11_goes 19 rfl) ?_
        refine pv_iald (k := (423 + sN)) (n := 3) (pc := 34) (rw_step.2.2.2 _ hs80).2.2.1 (rw_step.2.2.2 _ hs80).2.2.2.1 (rw_step.2.2.2 _ hs80).2.2.2.2 (fm_inl (by decide)) (fm_dec dtX11_goes 20 rfl) ?_
        refine pv_iconst (pc := 35) (v := 4) (by decide) (fm_dec dtX11_goes 21 rfl) ?_
        refine pv_icmp_ne (pc := 36) 89 (by decide) (fm_dec dtX11_goes 22 rfl) (fun hc36 => ?_) (fun hc36 => ?_)
        · refine pv_aloadn (pc := 89) (n := 0) 0 rfl rfl (fm_dec dtX11_goes 51 rfl) ?_
          refine pv_aloadn (pc := 90) (n := 0) 0 rfl rfl (fm_dec dtX11_goes 52 rfl) ?_
          refine pv_getR (k := 0) (j := 27) (ci := 11) (pc := 91) 7 rfl (by decide) pfl_X11_61 (by decide) rfl (by decide) (fm_dec dtX11_goes 53 rfl) ?_
          refine pv_aloadn (pc := 94) (n := 0) 0 rfl rfl (fm_dec dtX11_goes 54 rfl) ?_
          refine pv_getR (k := 0) (j := 25) (ci := 11) (pc := 95) 24 rfl (by decide) pfl_X11_58 (by decide) rfl (by decide) (fm_dec dtX11_goes 55 rfl) ?_
          refine pv_iloadn (pc := 98) (n := 3) 3 rfl rfl (fm_dec dtX11_goes 56 rfl) ?_
          refine pv_aald (k := 24) (n := 80) (r := (423 + sN)) (pc := 99) (by decide) (Or.inr (Or.inr rfl)) rfl (rw_step.inb hs hs80) (rw_step.at hs hs80) (rw_step.2.2.2 _ hs80).2.1 (fm_dec dtX11_goes 57 rfl) ?_
          refine pv_invV2 (k := 0) (d' := 9) (pc := 100) pcv_X11_316 (by decide) rfl (Nat.le_of_ble_eq_true rfl) (by omega) (fm_dec dtX11_goes 58 rfl) ?_
          refine s_does hs80 (h1r 0 ▸ b1) (show kd ≤ 3 by have : ¬ kd = 4 := (fun h9 => hc36 (i32_ext ((congrArg Int32.toInt (h1r 0)).trans (b1.trans (by rw [h9]; decide))))); omega) (fun h9 => by rw [h1r 1]; exact b3 h9) hG.2.1 hI1 (fun n100 M100 z100 hI100 f100 => ?_) 
          refine pv_then1 ?_
          rcases z100 with rfl | rfl
          · refine pv_istore (pc := 103) (i := 4) (by decide) rfl (fm_dec dtX11_goes 59 rfl) ?_
            dsimp only [List.set_cons_zero, List.set_cons_succ]
            refine pv_aloadn (pc := 105) (n := 0) 0 rfl rfl (fm_dec dtX11_goes 60 rfl) ?_
            refine pv_dup (pc := 106) rfl (fm_dec dtX11_goes 61 rfl) ?_
            refine pv_getI (k := 0) (j := 37) (ci := 11) (pc := 107) pfl_X11_320 (by decide) rfl (by decide) (fm_dec dtX11_goes 62 rfl) ?_
            refine pv_iload (pc := 110) (i := 4) rfl (fm_dec dtX11_goes 63 rfl) ?_
            refine pv_if_eq (pc := 112) 119 (by decide) (fm_dec dtX11_goes 64 rfl) (fun _ => ?_) (fun hc112 => by exfalso; revert hc112; decide)
            refine pv_iconst (pc := 119) (v := 0) (by decide) (fm_dec dtX11_goes 67 rfl) ?_
            refine pv_iadd (pc := 120) (fm_dec dtX11_goes 68 rfl) ?_
            refine pv_putI (k := 0) (j := 37) (ci := 11) (pc := 121) pfl_X11_320 (by decide) rfl (by decide) (fm_dec dtX11_goes 69 rfl) ?_
            refine pv_aloadn (pc := 124) (n := 0) 0 rfl rfl (fm_dec dtX11_goes 70 rfl) ?_
            refine pv_dup (pc := 125) rfl (fm_dec dtX11_goes 71 rfl) ?_
            refine pv_getI (k := 0) (j := 33) (ci := 11) (pc := 126) pfl_X11_203 (by decide) rfl (by decide) (fm_dec dtX11_goes 72 rfl) ?_
            refine pv_iload (pc := 129) (i := 4) rfl (fm_dec dtX11_goes 73 rfl) ?_
            refine pv_if_eq (pc := 131) 138 (by decide) (fm_dec dtX11_goes 74 rfl) (fun _ => ?_) (fun hc131 => by exfalso; revert hc131; decide)
            refine pv_iconst (pc := 138) (v := 1) (by decide) (fm_dec dtX11_goes 77 rfl) ?_
            refine pv_iadd (pc := 139) (fm_dec dtX11_goes 78 rfl) ?_
            refine pv_putI (k := 0) (j := 33) (ci := 11) (pc := 140) pfl_X11_203 (by decide) rfl (by decide) (fm_dec dtX11_goes 79 rfl) ?_
            have f9 := fr_c0g (x := M100.1 0 37 + 0) (dsFr.gs f1 f100) (Or.inr (Or.inr rfl))
            have f8 := fr_c0g (x := (fmI M100 0 37 (M100.1 0 37 + 0)).1 0 33 + 1) f9 (Or.inl rfl)
            exact gs_t ih (g := g + 1) (hG.fr f8 (inv_c0g (inv_c0g hI100 (Or.inr (Or.inr rfl))) (Or.inl rfl)) (by rw [fmI_j _ _ (by decide), fmI_j _ _ (by decide), (f100 0 36 rfl).1, fmI_s]; exact i32_p1 h36 (by omega)) (by omega)) (by omega) hs hsn ht htn (hq.fr f8 (by omega))
          · refine pv_istore (pc := 103) (i := 4) (by decide) rfl (fm_dec dtX11_goes 59 rfl) ?_
            dsimp only [List.set_cons_zero, List.set_cons_succ]
            refine pv_aloadn (pc := 105) (n := 0) 0 rfl rfl (fm_dec dtX11_goes 60 rfl) ?_
            refine pv_dup (pc := 106) rfl (fm_dec dtX11_goes 61 rfl) ?_
            refine pv_getI (k := 0) (j := 37) (ci := 11) (pc := 107) pfl_X11_320 (by decide) rfl (by decide) (fm_dec dtX11_goes 62 rfl) ?_
            refine pv_iload (pc := 110) (i := 4) rfl (fm_dec dtX11_goes 63 rfl) ?_
            refine pv_if_eq (pc := 112) 119 (by decide) (fm_dec dtX11_goes 64 rfl) (fun hc112 => by exfalso; revert hc112; decide) (fun _ => ?_)
            refine pv_iconst (pc := 115) (v := 1) (by decide) (fm_dec dtX11_goes 65 rfl) ?_
            refine pv_goto (pc := 116) 120 (by decide) (fm_dec dtX11_goes 66 rfl) ?_
            refine pv_iadd (pc := 120) (fm_dec dtX11_goes 68 rfl) ?_
            refine pv_putI (k := 0) (j := 37) (ci := 11) (pc := 121) pfl_X11_320 (by decide) rfl (by decide) (fm_dec dtX11_goes 69 rfl) ?_
            refine pv_aloadn (pc := 124) (n := 0) 0 rfl rfl (fm_dec dtX11_goes 70 rfl) ?_
            refine pv_dup (pc := 125) rfl (fm_dec dtX11_goes 71 rfl) ?_
            refine pv_getI (k := 0) (j := 33) (ci := 11) (pc := 126) pfl_X11_203 (by decide) rfl (by decide) (fm_dec dtX11_goes 72 rfl) ?_
            refine pv_iload (pc := 129) (i := 4) rfl (fm_dec dtX11_goes 73 rfl) ?_
            refine pv_if_eq (pc := 131) 138 (by decide) (fm_dec dtX11_goes 74 rfl) (fun hc131 => by exfalso; revert hc131; decide) (fun _ => ?_)
            refine pv_iconst (pc := 134) (v := 0) (by decide) (fm_dec dtX11_goes 75 rfl) ?_
            refine pv_goto (pc := 135) 139 (by decide) (fm_dec dtX11_goes 76 rfl) ?_
            refine pv_iadd (pc := 139) (fm_dec dtX11_goes 78 rfl) ?_
            refine pv_putI (k := 0) (j := 33) (ci := 11) (pc := 140) pfl_X11_203 (by decide) rfl (by decide) (fm_dec dtX11_goes 79 rfl) ?_
            have f9 := fr_c0g (x := M100.1 0 37 + 1) (dsFr.gs f1 f100) (Or.inr (Or.inr rfl))
            have f8 := fr_c0g (x := (fmI M100 0 37 (M100.1 0 37 + 1)).1 0 33 + 0) f9 (Or.inl rfl)
            exact gs_t ih (g := g + 1) (hG.fr f8 (inv_c0g (inv_c0g hI100 (Or.inr (Or.inr rfl))) (Or.inl rfl)) (by rw [fmI_j _ _ (by decide), fmI_j _ _ (by decide), (f100 0 36 rfl).1, fmI_s]; exact i32_p1 h36 (by omega)) (by omega)) (by omega) hs hsn ht htn (hq.fr f8 (by omega))
        · refine pv_iconst (pc := 39) (v := 0) (by decide) (fm_dec dtX11_goes 23 rfl) ?_
          refine pv_istore (pc := 40) (i := 4) (by decide) rfl (fm_dec dtX11_goes 24 rfl) ?_
          dsimp only [List.set_cons_zero, List.set_cons_succ]
          have hkd : kd = 4 := (by have h9 : ((fmI M 0 36 (M.1 0 36 + 1)).1 (423 + sN) (Int32.toNatClampNeg 0)).toInt = kd := (by rw [show Int32.toNatClampNeg 0 = 0 from rfl, h1r 0]; exact b1); rw [hc36] at h9; have h8 : (4 : Int32).toInt = 4 := (by decide); omega)
          exact gs_in (fun m' h9 => gs_G (ih m' h9)) hs hsn (b4 hkd).2 v _ (g + 1) 0 0 hG1 (by omega) (by rw [h1r 1]; exact (b4 hkd).1) (by decide) (by omega) (fun M' g' v4 h9 f9 a9 => gs_t ih h9 (by omega) hs hsn ht htn (hq.fr (gsFr.trans f1 f9) (by omega)))
