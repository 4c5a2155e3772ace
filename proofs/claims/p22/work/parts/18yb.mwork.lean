def mAll (M : fmM) (D : dD) (cs : tC) (R : gR) : Prop := mdw M D ∧ lwM M cs ∧ (cs = [] ∨ dpB 23 0 cs = some 1) ∧ mst M D R.1 ∧ stO D R.1 ∧ (M.1 0 36).toInt = (R.2.1 : Int) ∧ (M.1 0 37).toInt = (R.2.2.1 : Int) ∧ (M.1 0 33).toInt = (R.2.2.2 : Int) ∧ R.2.2.1 + R.2.2.2 ≤ R.2.1 ∧ R.2.1 ≤ 200
def nFr (M M' : fmM) : Prop := (∀ k j, k ≠ 0 → k ≠ 5 → k ≠ 6 → k ≠ 7 → M'.1 k j = M.1 k j) ∧ (∀ j, j ≠ 33 → j ≠ 36 → j ≠ 37 → M'.1 0 j = M.1 0 j) ∧ M'.2 = M.2
theorem nFr.refl (M : fmM) : nFr M M := ⟨fun _ _ _ _ _ _ => rfl, fun _ _ _ _ => rfl, rfl⟩
theorem nFr.trans {M M1 M2 : fmM} (h : nFr M M1) (h' : nFr M1 M2) : nFr M M2 := ⟨fun k j a b c d => (h'.1 k j a b c d).trans (h.1 k j a b c d), fun j a b c => (h'.2.1 j a b c).trans (h.2.1 j a b c), h'.2.2.trans h.2.2⟩
theorem nFr.put {M M1 : fmM} {j : Nat} {x : Int32} (h : nFr M M1) (hj : j = 33 ∨ j = 36 ∨ j = 37) : nFr M (fmI M1 0 j x) := ⟨fun k' j' a b c d => by rw [fmI_k _ _ a]; exact h.1 k' j' a b c d, fun j' a b c => by rw [fmI_j _ _ (by omega)]; exact h.2.1 j' a b c, h.2.2⟩
theorem mFr.n {M M1 : fmM} (h : mFr M M1) : nFr M M1 := ⟨fun k j a b c d => h.1 k j b c d, fun j _ _ _ => h.1 0 j (by decide) (by decide) (by decide), h.2⟩
theorem stRep.n {M M' : fmM} {ss : tS} (h : stRep M 0 ss) (hf : nFr M M') : stRep M' 0 ss := fun i c hi => by
  rw [hf.1 _ _ (by omega) (by omega) (by omega) (by omega), hf.1 _ _ (by omega) (by omega) (by omega) (by omega), hf.1 _ _ (by omega) (by omega) (by omega) (by omega)]
  exact h i c hi
theorem lwM.f {M M' : fmM} {cs : tC} (h : lwM M cs) (e : M'.1 0 17 = M.1 0 17) (e2 : ∀ k j, 91 ≤ k → M'.1 k j = M.1 k j) : lwM M' cs := ⟨by rw [e]; exact h.1, h.2.1, h.2.2.1, fun i c hi => by rw [e2 _ _ (by omega), e2 _ _ (by omega)]; exact h.2.2.2 i c hi⟩
theorem mAll.put {M : fmM} {D : dD} {cs : tC} {R : gR} {j : Nat} {x : Int32} (hD : dOk D) (h : mAll M D cs R) (hj : j = 33 ∨ j = 36 ∨ j = 37) : mdw (fmI M 0 j x) D ∧ lwM (fmI M 0 j x) cs ∧ mst (fmI M 0 j x) D R.1 := ⟨h.1.k hD (fun k j' a => by rw [fmI_k _ _ (by omega)]), h.2.1.f (by rw [fmI_j _ _ (by omega)]) (fun k j' a => by rw [fmI_k _ _ (by omega)]), h.2.2.2.1.of (fun j' => by rw [fmI_k _ _ (by decide)])⟩
/-- one step, whatever its kind -/
theorem c_mds {M : fmM} {Q : fmR → fmM → Prop} {D : dD} {cs : tC} {S : aS} {b k i : Nat} (hD : dOk D) (hY : mdw M D) (hL : lwM M cs) (hd : cs = [] ∨ dpB 23 0 cs = some 1) (hs : mst M D S) (ho : stO D S) (hb : b < 80) (hk : (M.1 (423 + b) 0).toInt = (k : Int)) (hk4 : k < 4) (hi1 : k ≠ 3 → (M.1 (423 + b) 1).toInt = (i : Int)) (hi : k < 3 → i < D.1) (hn : doS D cs S k i = none → Q (.inl (some (.int 0))) M) (hq : ∀ (M' : fmM) (S' : aS), doS D cs S k i = some S' → mst M' D S' → mFr M M' → Q (.inl (some (.int 1))) M') : pvGood Tm 9 qX11_does [.ref 0, .ref 7, .ref (423 + b)] M Q := by
  have hx : M.1 (423 + b) 0 = nI k := nI_is hk (by omega)
  match k, hk4, hx, hi1, hi, hn, hq with
  | 0, _, hx, hi1, hi, hn, hq => exact c_mds0 hD hY hL hd hs ho hb hx (hi1 (by decide)) (hi (by decide)) hn hq
  | 1, _, hx, hi1, hi, hn, hq => exact c_mds1 hD hY hL hd hs ho hb hx (hi1 (by decide)) (hi (by decide)) hn hq
  | 2, _, hx, hi1, hi, hn, hq => exact c_mds2 hD hY hL hd hs ho hb hx (hi1 (by decide)) (hi (by decide)) hn hq
  | 3, _, hx, hi1, hi, hn, hq => exact c_mds3 hD hY hL hd hs ho hb hx hn hq
  | k + 4, h, _, _, _, _, _ => omega
def mgL (D : dD) (cs : tC) (ss : tS) (f : Nat) : Prop := ∀ (M : fmM) (Q : fmR → fmM → Prop) (a g d : Nat) (l : tS) (R : gR) (fr to sx : Int32) (v4 : Option Value), mAll M D cs R → stRep M 0 ss → seg ss a l → a + l.length ≤ ss.length → wnL g d a l → sx.toInt = (a : Int) → to.toInt = ((a + l.length : Nat) : Int) → 200 - R.2.1 < f → (∀ M' : fmM, mAll M' D cs (goL D cs f a l R) → nFr M M' → Q (.inl none) M') → pvEv Tm (12 + f) qX11_goes 2 [some (.ref 0), some (.int fr), some (.int to), some (.int sx), v4] [] M Q
theorem mgL.go {D : dD} {cs : tC} {ss : tS} {f : Nat} (h : mgL D cs ss f) {M : fmM} {Q : fmR → fmM → Prop} {a g d : Nat} {l : tS} {R : gR} {to fr : Int32} (h1 : mAll M D cs R) (h2 : stRep M 0 ss) (h3 : seg ss a l) (h4 : a + l.length ≤ ss.length) (h5 : wnL g d a l) (h7 : fr.toInt = (a : Int)) (h8 : to.toInt = ((a + l.length : Nat) : Int)) (h10 : 200 - R.2.1 < f) (hq : ∀ M' : fmM, mAll M' D cs (goL D cs f a l R) → nFr M M' → Q (.inl none) M') : pvGood Tm (12 + f) qX11_goes [.ref 0, .int fr, .int to] M Q := by
  refine pvGood_of (Nat.le_of_ble_eq_true rfl) ?_
  show pvEv Tm (12 + f) qX11_goes 0 [some (.ref 0), some (.int fr), some (.int to), none, none] [] M Q
  refine pv_iloadn (pc := 0) (n := 1) 1 rfl rfl (fm_dec dtX11_goes 0 rfl) ?_
  refine pv_istoren (pc := 1) (n := 3) 3 rfl (by decide) rfl (fm_dec dtX11_goes 1 rfl) ?_
  dsimp only [List.set_cons_zero, List.set_cons_succ]
  exact h M Q a g d l R fr to fr none h1 h2 h3 h4 h5 h7 h8 h10 hq
set_option maxRecDepth 20000 in
theorem mge_in {Q : fmR → fmM → Prop} {D : dD} {cs : tC} {ss : tS} {f : Nat} (h : mgL D cs ss f) {a g9 d9 v e : Nat} {s : Nat × Nat × Nat} {r : tS} {fr to sx : Int32} (hsa : ss[a]? = some s) (hs2 : s.2.1 = v) (hs3 : s.2.2 = e) (h4s : s.1 = 4) (hv20 : v ≤ 20) (hseg : seg ss (a + 1) r) (hlen : a + 1 + r.length ≤ ss.length) (hae : a + 1 ≤ e) (her : e ≤ a + 1 + r.length) (hwn : wnL g9 d9 (a + 1) (r.take (e - (a + 1)))) (ha : sx.toInt = (a : Int)) (ha80 : a < 80) : ∀ (q : Nat) (M : fmM) (R : gR) (c : Nat) (cc : Int32), mAll M D cs R → stRep M 0 ss → 200 - R.2.1 < f → cc.toInt = (c : Int) → c + q = v → (∀ (M' : fmM) (v4 : Option Value), mAll M' D cs (loR (goL D cs f (a + 1) (r.take (e - (a + 1)))) q R) → nFr M M' → pvEv Tm (12 + (f + 1)) qX11_goes 143 [some (.ref 0), some (.int fr), some (.int to), some (.int sx), v4] [] M' Q) → pvEv Tm (12 + (f + 1)) qX11_goes 42 [some (.ref 0), some (.int fr), some (.int to), some (.int sx), some (.int cc)] [] M Q := by
  intro q
  induction q with
  | zero =>
    intro M R c cc hA hW hg hc hcq hq
    have hrow := hW a s hsa
    rw [show 423 + 0 + a = 423 + a by omega] at hrow
    have hv9 : (M.1 (423 + a) (Int32.toNatClampNeg 1)).toInt = (v : Int) := (hrow.2.1 (by rw [h4s]; decide)).trans (by rw [hs2])
    have he9 : (M.1 (423 + a) (Int32.toNatClampNeg 2)).toInt = (e : Int) := hrow.2.2.trans (by rw [hs3])
    refine pv_iload (pc := 42) (i := 4) rfl (fm_dec dtX11_goes 25 rfl) ?_
    refine pv_aloadn (pc := 44) (n := 0) 0 rfl rfl (fm_dec dtX11_goes 26 rfl) ?_
    refine pv_getR (k := 0) (j := 25) (ci := 11) (pc := 45) 24 rfl (by decide) pfl_X11_58 (by decide) rfl (by decide) (fm_dec dtX11_goes 27 rfl) ?_
    refine pv_iloadn (pc := 48) (n := 3) 3 rfl rfl (fm_dec dtX11_goes 28 rfl) ?_
    refine pv_aald (k := 24) (n := 80) (r := (423 + a)) (pc := 49) (by decide) (Or.inr (Or.inr rfl)) rfl (rw_step.inb ha ha80) (rw_step.at ha ha80) (rw_step.2.2.2 _ ha80).2.1 (fm_dec dtX11_goes 29 rfl) ?_
    refine pv_iconst (pc := 50) (v := 1) (by decide) (fm_dec dtX11_goes 30 rfl) ?_
    refine pv_iald (k := (423 + a)) (n := 3) (pc := 51) (rw_step.2.2.2 _ ha80).2.2.1 (rw_step.2.2.2 _ ha80).2.2.2.1 (rw_step.2.2.2 _ ha80).2.2.2.2 (fm_inl (by decide)) (fm_dec dtX11_goes 31 rfl) ?_
    refine pv_icmp_ge (pc := 52) 86 (by decide) (fm_dec dtX11_goes 32 rfl) (fun _ => ?_) (fun hc52 => by exfalso; apply hc52; rw [sc_le]; omega)
    refine pv_goto (pc := 86) 143 (by decide) (fm_dec dtX11_goes 50 rfl) ?_
    exact hq M _ hA (nFr.refl M)
  | succ q ih =>
    intro M R c cc hA hW hg hc hcq hq
    have hrow := hW a s hsa
    rw [show 423 + 0 + a = 423 + a by omega] at hrow
    have hv9 : (M.1 (423 + a) (Int32.toNatClampNeg 1)).toInt = (v : Int) := (hrow.2.1 (by rw [h4s]; decide)).trans (by rw [hs2])
    have he9 : (M.1 (423 + a) (Int32.toNatClampNeg 2)).toInt = (e : Int) := hrow.2.2.trans (by rw [hs3])
    refine pv_iload (pc := 42) (i := 4) rfl (fm_dec dtX11_goes 25 rfl) ?_
    refine pv_aloadn (pc := 44) (n := 0) 0 rfl rfl (fm_dec dtX11_goes 26 rfl) ?_
    refine pv_getR (k := 0) (j := 25) (ci := 11) (pc := 45) 24 rfl (by decide) pfl_X11_58 (by decide) rfl (by decide) (fm_dec dtX11_goes 27 rfl) ?_
    refine pv_iloadn (pc := 48) (n := 3) 3 rfl rfl (fm_dec dtX11_goes 28 rfl) ?_
    refine pv_aald (k := 24) (n := 80) (r := (423 + a)) (pc := 49) (by decide) (Or.inr (Or.inr rfl)) rfl (rw_step.inb ha ha80) (rw_step.at ha ha80) (rw_step.2.2.2 _ ha80).2.1 (fm_dec dtX11_goes 29 rfl) ?_
    refine pv_iconst (pc := 50) (v := 1) (by decide) (fm_dec dtX11_goes 30 rfl) ?_
    refine pv_iald (k := (423 + a)) (n := 3) (pc := 51) (rw_step.2.2.2 _ ha80).2.2.1 (rw_step.2.2.2 _ ha80).2.2.2.1 (rw_step.2.2.2 _ ha80).2.2.2.2 (fm_inl (by decide)) (fm_dec dtX11_goes 31 rfl) ?_
    refine pv_icmp_ge (pc := 52) 86 (by decide) (fm_dec dtX11_goes 32 rfl) (fun hc52 => by exfalso; rw [sc_le] at hc52; omega) (fun _ => ?_)
    refine pv_aloadn (pc := 55) (n := 0) 0 rfl rfl (fm_dec dtX11_goes 33 rfl) ?_
    refine pv_getI (k := 0) (j := 36) (ci := 11) (pc := 56) pfl_X11_310 (by decide) rfl (by decide) (fm_dec dtX11_goes 34 rfl) ?_
    refine pv_sipush (pc := 59) (v := 200) (by decide) (fm_dec dtX11_goes 35 rfl) ?_
    refine pv_icmp_ge (pc := 62) 86 (by decide) (fm_dec dtX11_goes 36 rfl) (fun hc62 => ?_) (fun hc62 => ?_)
    · refine pv_goto (pc := 86) 143 (by decide) (fm_dec dtX11_goes 50 rfl) ?_
      have eL : loR (goL D cs f (a + 1) (r.take (e - (a + 1)))) (q + 1) R = R := if_neg (by rw [sc_le] at hc62; have z200 : (200 : Int32).toInt = 200 := (by decide); have h9 := hA.2.2.2.2.2.1; omega)
      rw [eL] at hq
      exact hq M _ hA (nFr.refl M)
    · have hg2 : R.2.1 < 200 := (by rw [sc_le] at hc62; have z200 : (200 : Int32).toInt = 200 := (by decide); have h9 := hA.2.2.2.2.2.1; omega)
      have eL : loR (goL D cs f (a + 1) (r.take (e - (a + 1)))) (q + 1) R = loR (goL D cs f (a + 1) (r.take (e - (a + 1)))) q ((goL D cs f (a + 1) (r.take (e - (a + 1)))) R) := if_pos hg2
      rw [eL] at hq
      refine pv_aloadn (pc := 65) (n := 0) 0 rfl rfl (fm_dec dtX11_goes 37 rfl) ?_
      refine pv_iloadn (pc := 66) (n := 3) 3 rfl rfl (fm_dec dtX11_goes 38 rfl) ?_
      refine pv_iconst (pc := 67) (v := 1) (by decide) (fm_dec dtX11_goes 39 rfl) ?_
      refine pv_iadd (pc := 68) (fm_dec dtX11_goes 40 rfl) ?_
      refine pv_aloadn (pc := 69) (n := 0) 0 rfl rfl (fm_dec dtX11_goes 41 rfl) ?_
      refine pv_getR (k := 0) (j := 25) (ci := 11) (pc := 70) 24 rfl (by decide) pfl_X11_58 (by decide) rfl (by decide) (fm_dec dtX11_goes 42 rfl) ?_
      refine pv_iloadn (pc := 73) (n := 3) 3 rfl rfl (fm_dec dtX11_goes 43 rfl) ?_
      refine pv_aald (k := 24) (n := 80) (r := (423 + a)) (pc := 74) (by decide) (Or.inr (Or.inr rfl)) rfl (rw_step.inb ha ha80) (rw_step.at ha ha80) (rw_step.2.2.2 _ ha80).2.1 (fm_dec dtX11_goes 44 rfl) ?_
      refine pv_iconst (pc := 75) (v := 2) (by decide) (fm_dec dtX11_goes 45 rfl) ?_
      refine pv_iald (k := (423 + a)) (n := 3) (pc := 76) (rw_step.2.2.2 _ ha80).2.2.1 (rw_step.2.2.2 _ ha80).2.2.2.1 (rw_step.2.2.2 _ ha80).2.2.2.2 (fm_inl (by decide)) (fm_dec dtX11_goes 46 rfl) ?_
      refine pv_invV2 (k := 0) (d' := (12 + f)) (pc := 77) pcv_X11_313 (by decide) rfl (Nat.le_of_ble_eq_true rfl) (by omega) (fm_dec dtX11_goes 47 rfl) ?_
      refine h.go (a := a + 1) (g := g9) (d := d9) hA hW (seg.tk hseg) (by rw [List.length_take]; omega) hwn (i32_p1 ha (by omega)) (by rw [he9, List.length_take]; omega) hg (fun M77 h77 f77 => ?_) 
      refine pv_then0 ?_
      refine pv_iincc (pc := 80) 4 1 (by decide) rfl (by decide) rfl (fm_dec dtX11_goes 48 rfl) ?_
      dsimp only [List.set_cons_zero, List.set_cons_succ]
      refine pv_goto (pc := 83) 42 (by decide) (fm_dec dtX11_goes 49 rfl) ?_
      exact ih M77 _ (c + 1) _ h77 (hW.n f77) (by have h9 := go_ge (D := D) (cs := cs) f (a + 1) (r.take (e - (a + 1))) R; omega) (i32_p1 hc (by omega)) (by omega) (fun M' v4 a1 b1 => hq M' v4 a1 (f77.trans b1))
set_option maxRecDepth 20000 in
theorem mg_E {D : dD} {cs : tC} {ss : tS} (hD : dOk D) (hN : nuO D ss) (h80 : ss.length ≤ 80) : ∀ f, mgL D cs ss f := by
  intro f
  induction f with
  | zero =>
    intro M Q a g d l R fr to sx v4 hA hW hseg hlen hwn ha ht hf hq
    omega
  | succ f ih =>
    intro M Q a g d l R fr to sx v4 hA hW hseg hlen hwn ha ht hf hq
    refine pv_iloadn (pc := 2) (n := 3) 3 rfl rfl (fm_dec dtX11_goes 2 rfl) ?_
    refine pv_iloadn (pc := 3) (n := 2) 2 rfl rfl (fm_dec dtX11_goes 3 rfl) ?_
    refine pv_icmp_ge (pc := 4) 155 (by decide) (fm_dec dtX11_goes 4 rfl) (fun hc4 => ?_) (fun hc4 => ?_)
    · exact pv_return (pc := 155) rfl (fm_dec dtX11_goes 88 rfl) (by have el : l = [] := (by cases l with | nil => rfl | cons s r => (rw [sc_le] at hc4; rw [List.length_cons] at ht; omega)); subst el; rw [go_0] at hq; exact hq M hA (nFr.refl M))
    · obtain ⟨s, r, rfl⟩ : ∃ s r, l = s :: r := (by cases l with | nil => (rw [sc_le] at hc4; rw [List.length_nil] at ht; omega) | cons s r => exact ⟨s, r, rfl⟩)
      rw [List.length_cons] at ht hlen
      have ha80 : a < 80 := (by omega)
      have hsa := hseg.hd
      have hnu := hN.2 s (List.mem_of_getElem? hsa)
      refine pv_aloadn (pc := 7) (n := 0) 0 rfl rfl (fm_dec dtX11_goes 5 rfl) ?_
      refine pv_getI (k := 0) (j := 36) (ci := 11) (pc := 8) pfl_X11_310 (by decide) rfl (by decide) (fm_dec dtX11_goes 6 rfl) ?_
      refine pv_sipush (pc := 11) (v := 200) (by decide) (fm_dec dtX11_goes 7 rfl) ?_
      refine pv_icmp_ge (pc := 14) 155 (by decide) (fm_dec dtX11_goes 8 rfl) (fun hc14 => ?_) (fun hc14 => ?_)
      · exact pv_return (pc := 155) rfl (fm_dec dtX11_goes 88 rfl) (by rw [go_s (by rw [sc_le] at hc14; have z200 : (200 : Int32).toInt = 200 := (by decide); have h9 := hA.2.2.2.2.2.1; omega)] at hq; exact hq M hA (nFr.refl M))
      · have hg2 : R.2.1 < 200 := (by rw [sc_le] at hc14; have z200 : (200 : Int32).toInt = 200 := (by decide); have h9 := hA.2.2.2.2.2.1; omega)
        have hP1 := hA.put hD (x := M.1 0 36 + 1) (Or.inr (Or.inl rfl))
        have e4 : ((fmI M 0 36 (M.1 0 36 + 1)).1 0 36).toInt = ((R.2.1 + 1 : Nat) : Int) := (by rw [fmI_s]; exact i32_p1 hA.2.2.2.2.2.1 (by omega))
        have f1 : nFr M (fmI M 0 36 (M.1 0 36 + 1)) := (nFr.refl M).put (Or.inr (Or.inl rfl))
        have hW1 : stRep (fmI M 0 36 (M.1 0 36 + 1)) 0 ss := hW.n f1
        have hA1 : mAll (fmI M 0 36 (M.1 0 36 + 1)) D cs (R.1, R.2.1 + 1, R.2.2) := ⟨hP1.1, hP1.2.1, hA.2.2.1, hP1.2.2, hA.2.2.2.2.1, e4, hA.2.2.2.2.2.2.1, hA.2.2.2.2.2.2.2.1, (by show R.2.2.1 + R.2.2.2 ≤ R.2.1 + 1; have := hA.2.2.2.2.2.2.2.2.1; omega), hg2⟩
        have hrow1 := hW1 a s hsa
        rw [show 423 + 0 + a = 423 + a by omega] at hrow1
        refine pv_aloadn (pc := 17) (n := 0) 0 rfl rfl (fm_dec dtX11_goes 9 rfl) ?_
        refine pv_dup (pc := 18) rfl (fm_dec dtX11_goes 10 rfl) ?_
        refine pv_getI (k := 0) (j := 36) (ci := 11) (pc := 19) pfl_X11_310 (by decide) rfl (by decide) (fm_dec dtX11_goes 11 rfl) ?_
        refine pv_iconst (pc := 22) (v := 1) (by decide) (fm_dec dtX11_goes 12 rfl) ?_
        refine pv_iadd (pc := 23) (fm_dec dtX11_goes 13 rfl) ?_
        refine pv_putI (k := 0) (j := 36) (ci := 11) (pc := 24) pfl_X11_310 (by decide) rfl (by decide) (fm_dec dtX11_goes 14 rfl) ?_
        refine pv_aloadn (pc := 27) (n := 0) 0 rfl rfl (fm_dec dtX11_goes 15 rfl) ?_
        refine pv_getR (k := 0) (j := 25) (ci := 11) (pc := 28) 24 rfl (by decide) pfl_X11_58 (by decide) rfl (by decide) (fm_dec dtX11_goes 16 rfl) ?_
        refine pv_iloadn (pc := 31) (n := 3) 3 rfl rfl (fm_dec dtX11_goes 17 rfl) ?_
        refine pv_aald (k := 24) (n := 80) (r := (423 + a)) (pc := 32) (by decide) (Or.inr (Or.inr rfl)) rfl (rw_step.inb ha ha80) (rw_step.at ha ha80) (rw_step.2.2.2 _ ha80).2.1 (fm_dec dtX11_goes 18 rfl) ?_
        refine pv_iconst (pc := 33) (v := 0) (by decide) (fm_dec dtX11_goes 19 rfl) ?_
        refine pv_iald (k := (423 + a)) (n := 3) (pc := 34) (rw_step.2.2.2 _ ha80).2.2.1 (rw_step.2.2.2 _ ha80).2.2.2.1 (rw_step.2.2.2 _ ha80).2.2.2.2 (fm_inl (by decide)) (fm_dec dtX11_goes 20 rfl) ?_
        refine pv_iconst (pc := 35) (v := 4) (by decide) (fm_dec dtX11_goes 21 rfl) ?_
        refine pv_icmp_ne (pc := 36) 89 (by decide) (fm_dec dtX11_goes 22 rfl) (fun hc36 => ?_) (fun hc36 => ?_)
        · have h4 : ¬ s.1 = 4 := (fun h9 => hc36 (i32_ext (by have h8 : ((fmI M 0 36 (M.1 0 36 + 1)).1 (423 + a) (Int32.toNatClampNeg 0)).toInt = (s.1 : Int) := hrow1.1; rw [h8, h9]; decide)))
          obtain ⟨hk4, hs2, g8, w8⟩ := wn_1 hwn h4
          rw [go_1 hg2 h4] at hq
          refine pv_aloadn (pc := 89) (n := 0) 0 rfl rfl (fm_dec dtX11_goes 51 rfl) ?_
          refine pv_aloadn (pc := 90) (n := 0) 0 rfl rfl (fm_dec dtX11_goes 52 rfl) ?_
          refine pv_getR (k := 0) (j := 27) (ci := 11) (pc := 91) 7 rfl (by decide) pfl_X11_61 (by decide) rfl (by decide) (fm_dec dtX11_goes 53 rfl) ?_
          refine pv_aloadn (pc := 94) (n := 0) 0 rfl rfl (fm_dec dtX11_goes 54 rfl) ?_
          refine pv_getR (k := 0) (j := 25) (ci := 11) (pc := 95) 24 rfl (by decide) pfl_X11_58 (by decide) rfl (by decide) (fm_dec dtX11_goes 55 rfl) ?_
          refine pv_iloadn (pc := 98) (n := 3) 3 rfl rfl (fm_dec dtX11_goes 56 rfl) ?_
          refine pv_aald (k := 24) (n := 80) (r := (423 + a)) (pc := 99) (by decide) (Or.inr (Or.inr rfl)) rfl (rw_step.inb ha ha80) (rw_step.at ha ha80) (rw_step.2.2.2 _ ha80).2.1 (fm_dec dtX11_goes 57 rfl) ?_
          refine pv_invV2 (k := 0) (d' := 9) (pc := 100) pcv_X11_316 (by decide) rfl (Nat.le_of_ble_eq_true rfl) (by omega) (fm_dec dtX11_goes 58 rfl) ?_
          refine c_mds (k := s.1) (i := s.2.1) hD hP1.1 hP1.2.1 hA.2.2.1 hP1.2.2 hA.2.2.2.2.1 ha80 hrow1.1 hk4 hrow1.2.1 (fun h9 => hnu.1 h9) (fun h100 => ?_) (fun M9 S9 h100 x100 f100 => ?_)  
          · refine pv_then1 ?_
            refine pv_istore (pc := 103) (i := 4) (by decide) rfl (fm_dec dtX11_goes 59 rfl) ?_
            dsimp only [List.set_cons_zero, List.set_cons_succ]
            refine pv_aloadn (pc := 105) (n := 0) 0 rfl rfl (fm_dec dtX11_goes 60 rfl) ?_
            refine pv_dup (pc := 106) rfl (fm_dec dtX11_goes 61 rfl) ?_
            refine pv_getI (k := 0) (j := 37) (ci := 11) (pc := 107) pfl_X11_320 (by decide) rfl (by decide) (fm_dec dtX11_goes 62 rfl) ?_
            refine pv_iload (pc := 110) (i := 4) rfl (fm_dec dtX11_goes 63 rfl) ?_
            refine pv_if_eq (pc := 112) 119 (by decide) (fm_dec dtX11_goes 64 rfl) (fun _ => ?_) (fun hc112 => by exfalso; revert hc112; decide)
            refine pv_iconst (pc := 119) (v := 0) (by decide) (fm_dec dtX11_goes 67 rfl) ?_
            refine pv_iadd (pc := 120) (fm_dec dtX11_goes 68 rfl) ?_
            refine pv_putI (k := 0) (j := 37) (ci := 11) (pc := 121) pfl_X11_320 (by decide) rfl (by decide) (fm_dec dtX11_goes 69 rfl) ?_
            refine pv_aloadn (pc := 124) (n := 0) 0 rfl rfl (fm_dec dtX11_goes 70 rfl) ?_
            refine pv_dup (pc := 125) rfl (fm_dec dtX11_goes 71 rfl) ?_
            refine pv_getI (k := 0) (j := 33) (ci := 11) (pc := 126) pfl_X11_203 (by decide) rfl (by decide) (fm_dec dtX11_goes 72 rfl) ?_
            refine pv_iload (pc := 129) (i := 4) rfl (fm_dec dtX11_goes 73 rfl) ?_
            refine pv_if_eq (pc := 131) 138 (by decide) (fm_dec dtX11_goes 74 rfl) (fun _ => ?_) (fun hc131 => by exfalso; revert hc131; decide)
            refine pv_iconst (pc := 138) (v := 1) (by decide) (fm_dec dtX11_goes 77 rfl) ?_
            refine pv_iadd (pc := 139) (fm_dec dtX11_goes 78 rfl) ?_
            refine pv_putI (k := 0) (j := 33) (ci := 11) (pc := 140) pfl_X11_203 (by decide) rfl (by decide) (fm_dec dtX11_goes 79 rfl) ?_
            refine pv_aloadn (pc := 143) (n := 0) 0 rfl rfl (fm_dec dtX11_goes 80 rfl) ?_
            refine pv_getR (k := 0) (j := 25) (ci := 11) (pc := 144) 24 rfl (by decide) pfl_X11_58 (by decide) rfl (by decide) (fm_dec dtX11_goes 81 rfl) ?_
            refine pv_iloadn (pc := 147) (n := 3) 3 rfl rfl (fm_dec dtX11_goes 82 rfl) ?_
            refine pv_aald (k := 24) (n := 80) (r := (423 + a)) (pc := 148) (by decide) (Or.inr (Or.inr rfl)) rfl (rw_step.inb ha ha80) (rw_step.at ha ha80) (rw_step.2.2.2 _ ha80).2.1 (fm_dec dtX11_goes 83 rfl) ?_
            refine pv_iconst (pc := 149) (v := 2) (by decide) (fm_dec dtX11_goes 84 rfl) ?_
            refine pv_iald (k := (423 + a)) (n := 3) (pc := 150) (rw_step.2.2.2 _ ha80).2.2.1 (rw_step.2.2.2 _ ha80).2.2.2.1 (rw_step.2.2.2 _ ha80).2.2.2.2 (fm_inl (by decide)) (fm_dec dtX11_goes 85 rfl) ?_
            refine pv_istoren (pc := 151) (n := 3) 3 rfl (by decide) rfl (fm_dec dtX11_goes 86 rfl) ?_
            dsimp only [List.set_cons_zero, List.set_cons_succ]
            refine pv_goto (pc := 152) 2 (by decide) (fm_dec dtX11_goes 87 rfl) ?_
            have eR : oneR D cs R s.1 s.2.1 = (R.1, R.2.1 + 1, R.2.2.1, R.2.2.2 + 1) := (by unfold oneR; rw [h100])
            rw [eR] at hq
            have fN : nFr M (fmI (fmI (fmI M 0 36 (M.1 0 36 + 1)) 0 37 ((fmI M 0 36 (M.1 0 36 + 1)).1 0 37 + 0)) 0 33 ((fmI (fmI M 0 36 (M.1 0 36 + 1)) 0 37 ((fmI M 0 36 (M.1 0 36 + 1)).1 0 37 + 0)).1 0 33 + 1)) := (f1.put (Or.inr (Or.inr rfl))).put (Or.inl rfl)
            have hb9 := hA.2.2.2.2.2.2.2.2.1
            have z0 : (0 : Int32).toInt = 0 := (by decide)
            have er9 : ((fmI (fmI (fmI M 0 36 (M.1 0 36 + 1)) 0 37 ((fmI M 0 36 (M.1 0 36 + 1)).1 0 37 + 0)) 0 33 ((fmI (fmI M 0 36 (M.1 0 36 + 1)) 0 37 ((fmI M 0 36 (M.1 0 36 + 1)).1 0 37 + 0)).1 0 33 + 1)).1 (423 + a) (Int32.toNatClampNeg 2)).toInt = ((a + 1 : Nat) : Int) := (by have h8 := (hW.n fN) a s hsa; rw [show 423 + 0 + a = 423 + a by omega] at h8; have h7 := h8.2.2; rw [hs2] at h7; exact h7)
            have xN : mAll (fmI (fmI (fmI M 0 36 (M.1 0 36 + 1)) 0 37 ((fmI M 0 36 (M.1 0 36 + 1)).1 0 37 + 0)) 0 33 ((fmI (fmI M 0 36 (M.1 0 36 + 1)) 0 37 ((fmI M 0 36 (M.1 0 36 + 1)).1 0 37 + 0)).1 0 33 + 1)) D cs (R.1, R.2.1 + 1, R.2.2.1, R.2.2.2 + 1) := ⟨hA.1.k hD (fun k j a1 => fN.1 k j (by omega) (by omega) (by omega) (by omega)), hA.2.1.f (fN.2.1 17 (by decide) (by decide) (by decide)) (fun k j a1 => fN.1 k j (by omega) (by omega) (by omega) (by omega)), hA.2.2.1, hA.2.2.2.1.of (fun j => rfl), hA.2.2.2.2.1, e4, (by show ((fmI M 0 36 (M.1 0 36 + 1)).1 0 37 + 0).toInt = (R.2.2.1 : Int); have h9 : ((fmI M 0 36 (M.1 0 36 + 1)).1 0 37).toInt = (R.2.2.1 : Int) := hA.2.2.2.2.2.2.1; rw [sc_add (by omega) (by omega)]; omega), (by show ((fmI M 0 36 (M.1 0 36 + 1)).1 0 33 + 1).toInt = _; exact i32_p1 hA.2.2.2.2.2.2.2.1 (by omega)), (by show R.2.2.1 + (R.2.2.2 + 1) ≤ R.2.1 + 1; omega), hg2⟩
            refine (ih _ Q (a + 1) g8 d r _ _ _ _ _ xN (hW.n fN) hseg.tl (by omega) w8 er9 (by rw [ht]; congr 1; omega) (by show 200 - (R.2.1 + 1) < f; omega) (fun M' h1 h2 => hq M' h1 (fN.trans h2))).up (by omega)
          · refine pv_then1 ?_
            refine pv_istore (pc := 103) (i := 4) (by decide) rfl (fm_dec dtX11_goes 59 rfl) ?_
            dsimp only [List.set_cons_zero, List.set_cons_succ]
            refine pv_aloadn (pc := 105) (n := 0) 0 rfl rfl (fm_dec dtX11_goes 60 rfl) ?_
            refine pv_dup (pc := 106) rfl (fm_dec dtX11_goes 61 rfl) ?_
            refine pv_getI (k := 0) (j := 37) (ci := 11) (pc := 107) pfl_X11_320 (by decide) rfl (by decide) (fm_dec dtX11_goes 62 rfl) ?_
            refine pv_iload (pc := 110) (i := 4) rfl (fm_dec dtX11_goes 63 rfl) ?_
            refine pv_if_eq (pc := 112) 119 (by decide) (fm_dec dtX11_goes 64 rfl) (fun hc112 => by exfalso; revert hc112; decide) (fun _ => ?_)
            refine pv_iconst (pc := 115) (v := 1) (by decide) (fm_dec dtX11_goes 65 rfl) ?_
            refine pv_goto (pc := 116) 120 (by decide) (fm_dec dtX11_goes 66 rfl) ?_
            refine pv_iadd (pc := 120) (fm_dec dtX11_goes 68 rfl) ?_
            refine pv_putI (k := 0) (j := 37) (ci := 11) (pc := 121) pfl_X11_320 (by decide) rfl (by decide) (fm_dec dtX11_goes 69 rfl) ?_
            refine pv_aloadn (pc := 124) (n := 0) 0 rfl rfl (fm_dec dtX11_goes 70 rfl) ?_
            refine pv_dup (pc := 125) rfl (fm_dec dtX11_goes 71 rfl) ?_
            refine pv_getI (k := 0) (j := 33) (ci := 11) (pc := 126) pfl_X11_203 (by decide) rfl (by decide) (fm_dec dtX11_goes 72 rfl) ?_
            refine pv_iload (pc := 129) (i := 4) rfl (fm_dec dtX11_goes 73 rfl) ?_
            refine pv_if_eq (pc := 131) 138 (by decide) (fm_dec dtX11_goes 74 rfl) (fun hc131 => by exfalso; revert hc131; decide) (fun _ => ?_)
            refine pv_iconst (pc := 134) (v := 0) (by decide) (fm_dec dtX11_goes 75 rfl) ?_
            refine pv_goto (pc := 135) 139 (by decide) (fm_dec dtX11_goes 76 rfl) ?_
            refine pv_iadd (pc := 139) (fm_dec dtX11_goes 78 rfl) ?_
            refine pv_putI (k := 0) (j := 33) (ci := 11) (pc := 140) pfl_X11_203 (by decide) rfl (by decide) (fm_dec dtX11_goes 79 rfl) ?_
            refine pv_aloadn (pc := 143) (n := 0) 0 rfl rfl (fm_dec dtX11_goes 80 rfl) ?_
            refine pv_getR (k := 0) (j := 25) (ci := 11) (pc := 144) 24 rfl (by decide) pfl_X11_58 (by decide) rfl (by decide) (fm_dec dtX11_goes 81 rfl) ?_
            refine pv_iloadn (pc := 147) (n := 3) 3 rfl rfl (fm_dec dtX11_goes 82 rfl) ?_
            refine pv_aald (k := 24) (n := 80) (r := (423 + a)) (pc := 148) (by decide) (Or.inr (Or.inr rfl)) rfl (rw_step.inb ha ha80) (rw_step.at ha ha80) (rw_step.2.2.2 _ ha80).2.1 (fm_dec dtX11_goes 83 rfl) ?_
            refine pv_iconst (pc := 149) (v := 2) (by decide) (fm_dec dtX11_goes 84 rfl) ?_
            refine pv_iald (k := (423 + a)) (n := 3) (pc := 150) (rw_step.2.2.2 _ ha80).2.2.1 (rw_step.2.2.2 _ ha80).2.2.2.1 (rw_step.2.2.2 _ ha80).2.2.2.2 (fm_inl (by decide)) (fm_dec dtX11_goes 85 rfl) ?_
            refine pv_istoren (pc := 151) (n := 3) 3 rfl (by decide) rfl (fm_dec dtX11_goes 86 rfl) ?_
            dsimp only [List.set_cons_zero, List.set_cons_succ]
            refine pv_goto (pc := 152) 2 (by decide) (fm_dec dtX11_goes 87 rfl) ?_
            have eR : oneR D cs R s.1 s.2.1 = (S9, R.2.1 + 1, R.2.2.1 + 1, R.2.2.2) := (by unfold oneR; rw [h100])
            rw [eR] at hq
            have fM : nFr M M9 := f1.trans f100.n
            have fS : nFr M (fmI (fmI M9 0 37 (M9.1 0 37 + 1)) 0 33 ((fmI M9 0 37 (M9.1 0 37 + 1)).1 0 33 + 0)) := (fM.put (Or.inr (Or.inr rfl))).put (Or.inl rfl)
            have hb9 := hA.2.2.2.2.2.2.2.2.1
            have z0 : (0 : Int32).toInt = 0 := (by decide)
            have q37 : (M9.1 0 37).toInt = (R.2.2.1 : Int) := (by rw [f100.1 0 37 (by decide) (by decide) (by decide)]; exact hA.2.2.2.2.2.2.1)
            have q33 : (M9.1 0 33).toInt = (R.2.2.2 : Int) := (by rw [f100.1 0 33 (by decide) (by decide) (by decide)]; exact hA.2.2.2.2.2.2.2.1)
            have q36 : (M9.1 0 36).toInt = ((R.2.1 + 1 : Nat) : Int) := (by rw [f100.1 0 36 (by decide) (by decide) (by decide)]; exact e4)
            have hO9 := do_ok hD hA.2.2.2.2.1 hnu.1 h100
            have er9 : ((fmI (fmI M9 0 37 (M9.1 0 37 + 1)) 0 33 ((fmI M9 0 37 (M9.1 0 37 + 1)).1 0 33 + 0)).1 (423 + a) (Int32.toNatClampNeg 2)).toInt = ((a + 1 : Nat) : Int) := (by have h8 := (hW.n fS) a s hsa; rw [show 423 + 0 + a = 423 + a by omega] at h8; have h7 := h8.2.2; rw [hs2] at h7; exact h7)
            have xS : mAll (fmI (fmI M9 0 37 (M9.1 0 37 + 1)) 0 33 ((fmI M9 0 37 (M9.1 0 37 + 1)).1 0 33 + 0)) D cs (S9, R.2.1 + 1, R.2.2.1 + 1, R.2.2.2) := ⟨hA.1.k hD (fun k j a1 => fS.1 k j (by omega) (by omega) (by omega) (by omega)), hA.2.1.f (fS.2.1 17 (by decide) (by decide) (by decide)) (fun k j a1 => fS.1 k j (by omega) (by omega) (by omega) (by omega)), hA.2.2.1, x100.of (fun j => rfl), hO9, q36, (by show (M9.1 0 37 + 1).toInt = _; exact i32_p1 q37 (by omega)), (by show (M9.1 0 33 + 0).toInt = (R.2.2.2 : Int); rw [sc_add (by omega) (by omega)]; omega), (by show R.2.2.1 + 1 + R.2.2.2 ≤ R.2.1 + 1; omega), hg2⟩
            refine (ih _ Q (a + 1) g8 d r _ _ _ _ _ xS (hW.n fS) hseg.tl (by omega) w8 er9 (by rw [ht]; congr 1; omega) (by show 200 - (R.2.1 + 1) < f; omega) (fun M' h1 h2 => hq M' h1 (fS.trans h2))).up (by omega)
        · have h4 : s.1 = 4 := (by have h9 := congrArg Int32.toInt hc36; have h8 : ((fmI M 0 36 (M.1 0 36 + 1)).1 (423 + a) (Int32.toNatClampNeg 0)).toInt = (s.1 : Int) := hrow1.1; rw [h8] at h9; have z4 : (4 : Int32).toInt = 4 := (by decide); omega)
          have hwn := wn_4 hwn h4
          rw [go_4 hg2 h4] at hq
          refine pv_iconst (pc := 39) (v := 0) (by decide) (fm_dec dtX11_goes 23 rfl) ?_
          refine pv_istore (pc := 40) (i := 4) (by decide) rfl (fm_dec dtX11_goes 24 rfl) ?_
          dsimp only [List.set_cons_zero, List.set_cons_succ]
          obtain ⟨w1, w2, w3, ⟨g9, w4⟩, g8, w5⟩ := hwn
          have hlt : R.2.1 + 1 ≤ (loR (goL D cs f (a + 1) (r.take (s.2.2 - (a + 1)))) s.2.1 (R.1, R.2.1 + 1, R.2.2)).2.1 := lo_ge (fun R => go_ge f _ _ R) s.2.1 (R.1, R.2.1 + 1, R.2.2)
          refine mge_in ih hsa rfl rfl h4 hnu.2 hseg.tl (by omega) w2 w3 w4 ha ha80 s.2.1 _ _ 0 0 hA1 hW1 (by show 200 - (R.2.1 + 1) < f; omega) (by decide) (by omega) (fun M9 v9 a9 f9 => ?_)
          have hr9 := (hW1.n f9) a s hsa
          rw [show 423 + 0 + a = 423 + a by omega] at hr9
          refine pv_aloadn (pc := 143) (n := 0) 0 rfl rfl (fm_dec dtX11_goes 80 rfl) ?_
          refine pv_getR (k := 0) (j := 25) (ci := 11) (pc := 144) 24 rfl (by decide) pfl_X11_58 (by decide) rfl (by decide) (fm_dec dtX11_goes 81 rfl) ?_
          refine pv_iloadn (pc := 147) (n := 3) 3 rfl rfl (fm_dec dtX11_goes 82 rfl) ?_
          refine pv_aald (k := 24) (n := 80) (r := (423 + a)) (pc := 148) (by decide) (Or.inr (Or.inr rfl)) rfl (rw_step.inb ha ha80) (rw_step.at ha ha80) (rw_step.2.2.2 _ ha80).2.1 (fm_dec dtX11_goes 83 rfl) ?_
          refine pv_iconst (pc := 149) (v := 2) (by decide) (fm_dec dtX11_goes 84 rfl) ?_
          refine pv_iald (k := (423 + a)) (n := 3) (pc := 150) (rw_step.2.2.2 _ ha80).2.2.1 (rw_step.2.2.2 _ ha80).2.2.2.1 (rw_step.2.2.2 _ ha80).2.2.2.2 (fm_inl (by decide)) (fm_dec dtX11_goes 85 rfl) ?_
          refine pv_istoren (pc := 151) (n := 3) 3 rfl (by decide) rfl (fm_dec dtX11_goes 86 rfl) ?_
          dsimp only [List.set_cons_zero, List.set_cons_succ]
          refine pv_goto (pc := 152) 2 (by decide) (fm_dec dtX11_goes 87 rfl) ?_
          refine (ih M9 Q s.2.2 g8 d (r.drop (s.2.2 - (a + 1))) _ _ _ _ _ a9 (hW1.n f9) (by have h8 := hseg.tl.dp (n := s.2.2 - (a + 1)); rw [show a + 1 + (s.2.2 - (a + 1)) = s.2.2 by omega] at h8; exact h8) (by rw [List.length_drop]; omega) w5 hr9.2.2 (by rw [ht, List.length_drop]; congr 1; omega) (by omega) (fun M' h1 h2 => hq M' h1 ((f1.trans f9).trans h2))).up (by omega)
