/-- steps are done -/
def xQ (M : fmM) (n g : Nat) : Prop := n ≤ 150 ∧ xS M 0 n ∧ scInv Tx invX M ∧ (M.1 28 4).toInt = (g : Int) ∧ g ≤ 200
theorem pfW_k {k j : Nat} (h : k = 29 ∨ k = 30 ∨ k = 31) : scIn pfW k j = false := by
  rcases h with rfl | rfl | rfl <;> rfl
theorem xQ.fr {M M' : fmM} {n g g' : Nat} (h : xQ M n g) (hf : scFr pfW M M') (hI : scInv Tx invX M') (hg : (M'.1 28 4).toInt = (g' : Int)) (h2 : g' ≤ 200) : xQ M' n g' :=
  ⟨h.1, fun i a b => (h.2.1 i a b).up (Nat.le_refl _) (fun k hk => (hf k i (pfW_k hk)).1), hI, hg, h2⟩
theorem pfFr.trans {M M1 M2 : fmM} (h : scFr pfW M M1) (h' : scFr pfW M1 M2) : scFr pfW M M2 := scFr.trans h h' (by decide)
def xpE (Q : fmR → fmM → Prop) (M : fmM) (g : Nat) : Prop := ∀ (M' : fmM) (g' : Nat), scInv Tx invX M' → scFr pfW M M' → (M'.1 28 4).toInt = (g' : Int) → g ≤ g' → g' ≤ 200 → Q (.inl none) M'
theorem xpE.fr {Q : fmR → fmM → Prop} {M M1 : fmM} {g g1 : Nat} (h : xpE Q M g) (hf : scFr pfW M M1) (hg : g ≤ g1) : xpE Q M1 g1 := fun M' g' a b c d e => h M' g' a (pfFr.trans hf b) c (by omega) e
def xpP (m : Nat) : Prop := ∀ (M : fmM) (Q : fmR → fmM → Prop) (n g aN tN : Nat) (fr to op a : Int32) (v7 : Option Value), xQ M n g → g + m = 200 → a.toInt = (aN : Int) → to.toInt = (tN : Int) → tN ≤ n → xpE Q M g → pvEv Tx (12 + m) qX9_perform 3 [some (.ref 28), some (.ref 32), some (.ref 47), some (.int fr), some (.int to), some (.int op), some (.int a), v7] [] M Q
def xpG (m : Nat) : Prop := ∀ (M : fmM) (Q : fmR → fmM → Prop) (n g aN tN : Nat) (to op a : Int32), xQ M n g → g + m = 200 → a.toInt = (aN : Int) → to.toInt = (tN : Int) → tN ≤ n → xpE Q M g → pvGood Tx (12 + m) qX9_perform [.ref 28, .ref 32, .ref 47, .int a, .int to, .int op] M Q
theorem mx_nat {x y : Int32} {p : Nat} (hx : x.toInt = (p : Int)) (hy : 0 ≤ y.toInt) : ∃ q : Nat, (pvMx true x y).toInt = (q : Int) := by
  show ∃ q : Nat, (if x.toInt ≤ y.toInt then y else x).toInt = (q : Int)
  split
  · exact ⟨y.toInt.toNat, by omega⟩
  · exact ⟨p, hx⟩
theorem inv_28 {M : fmM} {j : Nat} {x : Int32} (hI : scInv Tx invX M) (hj : j = 5 ∨ j = 6) : scInv Tx invX (fmI M 28 j x) := by
  rcases hj with rfl | rfl <;> exact xInv.put hI (scq_t x)
theorem inv_284 {M : fmM} {g : Nat} (hI : scInv Tx invX M) (hg : (M.1 28 4).toInt = (g : Int)) (h : g < 200) : scInv Tx invX (fmI M 28 4 (M.1 28 4 + 1)) := by
  have h1 := i32_p1 hg (by omega)
  refine xInv.put hI ⟨?_, ?_⟩
  · show (0 : Int) ≤ _
    omega
  · show _ ≤ (200 : Int)
    omega
theorem fr_28 {M0 M : fmM} {j : Nat} {x : Int32} (h : scFr pfW M0 M) (hj : j = 4 ∨ j = 5 ∨ j = 6) : scFr pfW M0 (fmI M 28 j x) := by
  rcases hj with rfl | rfl | rfl <;> exact scFr.toI h rfl
def tIx (r : fmR) : Prop := (∃ n : Int32, r = .inl (some (.int n))) ∨ r = .inr fmIAE
set_option maxRecDepth 20000 in
theorem xp_t {Q : fmR → fmM → Prop} {m : Nat} (ih : ∀ m' : Nat, m' < m → xpP m') {M : fmM} {n g aN tN : Nat} {fr to op a : Int32} {v7 : Option Value} (hG : xQ M n g) (hg : 200 - g < m) (ha : a.toInt = (aN : Int)) (ha150 : aN < 150) (ht : to.toInt = (tN : Int)) (htn : tN ≤ n) (hq : xpE Q M g) : pvEv Tx (12 + m) qX9_perform 108 [some (.ref 28), some (.ref 32), some (.ref 47), some (.int fr), some (.int to), some (.int op), some (.int a), v7] [] M Q := by
  refine pv_iload (pc := 108) (i := 6) rfl (fm_dec dtX9_perform 55 rfl) ?_
  refine pv_iconst (pc := 110) (v := 1) (by decide) (fm_dec dtX9_perform 56 rfl) ?_
  refine pv_iadd (pc := 111) (fm_dec dtX9_perform 57 rfl) ?_
  refine pv_aloadn (pc := 112) (n := 0) 0 rfl rfl (fm_dec dtX9_perform 58 rfl) ?_
  refine pv_getR (k := 28) (j := 2) (ci := 9) (pc := 113) 31 rfl (by decide) pfl_X9_18 (by decide) rfl (by decide) (fm_dec dtX9_perform 59 rfl) ?_
  refine pv_iload (pc := 116) (i := 6) rfl (fm_dec dtX9_perform 60 rfl) ?_
  refine pv_iald (k := 31) (n := 150) (pc := 118) (by decide) rfl rfl (ix_in ha ha150) (fm_dec dtX9_perform 61 rfl) ?_
  refine pv_mm (pc := 119) pmm_X9_80 (by omega) (Nat.le_of_ble_eq_true rfl) (fm_dec dtX9_perform 62 rfl) ?_
  refine pv_istore (pc := 122) (i := 6) (by decide) rfl (fm_dec dtX9_perform 63 rfl) ?_
  dsimp only [List.set_cons_zero, List.set_cons_succ]
  refine pv_goto (pc := 124) 3 (by decide) (fm_dec dtX9_perform 64 rfl) ?_
  obtain ⟨q, hq9⟩ := mx_nat (y := M.1 31 a.toNatClampNeg) (i32_p1 ha (by omega)) (hG.2.2.1.1 31 a.toNatClampNeg (show a.toInt.toNat < 150 by omega)).1
  exact (ih (200 - g) hg M Q n g q tN _ _ _ _ _ hG (by have := hG.2.2.2.2; omega) hq9 ht htn hq).up (by omega)
set_option maxRecDepth 20000 in
theorem xp_in {Q : fmR → fmM → Prop} {m : Nat} (hGG : ∀ m' : Nat, m' < m → xpG m') {n aN v : Nat} {fr to op a : Int32} (ha : a.toInt = (aN : Int)) (han : aN < n) (ha150 : aN < 150) (hv20 : v ≤ 20) : ∀ (q : Nat) (M : fmM) (g c : Nat) (cc : Int32), xQ M n g → 200 - g < m → (M.1 29 aN).toInt = 4 → (M.1 30 aN).toInt ≤ (v : Int) → cc.toInt = (c : Int) → c + q = v → (∀ (M' : fmM) (g' : Nat) (v7 : Option Value), xQ M' n g' → scFr pfW M M' → g ≤ g' → pvEv Tx (12 + m) qX9_perform 108 [some (.ref 28), some (.ref 32), some (.ref 47), some (.int fr), some (.int to), some (.int op), some (.int a), v7] [] M' Q) → pvEv Tx (12 + m) qX9_perform 59 [some (.ref 28), some (.ref 32), some (.ref 47), some (.int fr), some (.int to), some (.int op), some (.int a), some (.int cc)] [] M Q := by
  intro q
  induction q with
  | zero =>
    intro M g c cc hG hg h29 hv hc hcq hq
    refine pv_iload (pc := 59) (i := 7) rfl (fm_dec dtX9_perform 29 rfl) ?_
    refine pv_aloadn (pc := 61) (n := 0) 0 rfl rfl (fm_dec dtX9_perform 30 rfl) ?_
    refine pv_getR (k := 28) (j := 1) (ci := 9) (pc := 62) 30 rfl (by decide) pfl_X9_15 (by decide) rfl (by decide) (fm_dec dtX9_perform 31 rfl) ?_
    refine pv_iload (pc := 65) (i := 6) rfl (fm_dec dtX9_perform 32 rfl) ?_
    refine pv_iald (k := 30) (n := 150) (pc := 67) (by decide) rfl rfl (ix_in ha ha150) (fm_dec dtX9_perform 33 rfl) ?_
    refine pv_icmp_ge (pc := 68) 108 (by decide) (fm_dec dtX9_perform 34 rfl) (fun _ => ?_) (fun hc68 => by exfalso; apply hc68; rw [sc_le, i32_cl ha]; omega)
    exact hq M g _ hG scFr.rfl (Nat.le_refl _)
  | succ q ih =>
    intro M g c cc hG hg h29 hv hc hcq hq
    refine pv_iload (pc := 59) (i := 7) rfl (fm_dec dtX9_perform 29 rfl) ?_
    refine pv_aloadn (pc := 61) (n := 0) 0 rfl rfl (fm_dec dtX9_perform 30 rfl) ?_
    refine pv_getR (k := 28) (j := 1) (ci := 9) (pc := 62) 30 rfl (by decide) pfl_X9_15 (by decide) rfl (by decide) (fm_dec dtX9_perform 31 rfl) ?_
    refine pv_iload (pc := 65) (i := 6) rfl (fm_dec dtX9_perform 32 rfl) ?_
    refine pv_iald (k := 30) (n := 150) (pc := 67) (by decide) rfl rfl (ix_in ha ha150) (fm_dec dtX9_perform 33 rfl) ?_
    refine pv_icmp_ge (pc := 68) 108 (by decide) (fm_dec dtX9_perform 34 rfl) (fun hc68 => ?_) (fun hc68 => ?_)
    · exact hq M g _ hG scFr.rfl (Nat.le_refl _)
    · have hlt : c < v := (by have h9 := hc68; rw [sc_le, i32_cl ha] at h9; omega)
      obtain ⟨e, he, hen⟩ : ∃ e : Nat, (M.1 31 aN).toInt = (e : Int) ∧ e ≤ n := (by have h0 : 0 ≤ (M.1 31 aN).toInt := (hG.2.2.1.1 31 aN ha150).1; have h9 := (hG.2.1 aN (Nat.zero_le _) han).1 h29; exact ⟨(M.1 31 aN).toInt.toNat, by omega, by omega⟩)
      refine pv_aloadn (pc := 71) (n := 0) 0 rfl rfl (fm_dec dtX9_perform 35 rfl) ?_
      refine pv_getI (k := 28) (j := 4) (ci := 9) (pc := 72) pfl_X9_25 (by decide) rfl (by decide) (fm_dec dtX9_perform 36 rfl) ?_
      refine pv_sipush (pc := 75) (v := 200) (by decide) (fm_dec dtX9_perform 37 rfl) ?_
      refine pv_icmp_ge (pc := 78) 108 (by decide) (fm_dec dtX9_perform 38 rfl) (fun hc78 => ?_) (fun hc78 => ?_)
      · exact hq M g _ hG scFr.rfl (Nat.le_refl _)
      · refine pv_aloadn (pc := 81) (n := 0) 0 rfl rfl (fm_dec dtX9_perform 39 rfl) ?_
        refine pv_aloadn (pc := 82) (n := 1) 1 rfl rfl (fm_dec dtX9_perform 40 rfl) ?_
        refine pv_aloadn (pc := 83) (n := 2) 2 rfl rfl (fm_dec dtX9_perform 41 rfl) ?_
        refine pv_iload (pc := 84) (i := 6) rfl (fm_dec dtX9_perform 42 rfl) ?_
        refine pv_iconst (pc := 86) (v := 1) (by decide) (fm_dec dtX9_perform 43 rfl) ?_
        refine pv_iadd (pc := 87) (fm_dec dtX9_perform 44 rfl) ?_
        refine pv_aloadn (pc := 88) (n := 0) 0 rfl rfl (fm_dec dtX9_perform 45 rfl) ?_
        refine pv_getR (k := 28) (j := 2) (ci := 9) (pc := 89) 31 rfl (by decide) pfl_X9_18 (by decide) rfl (by decide) (fm_dec dtX9_perform 46 rfl) ?_
        refine pv_iload (pc := 92) (i := 6) rfl (fm_dec dtX9_perform 47 rfl) ?_
        refine pv_iald (k := 31) (n := 150) (pc := 94) (by decide) rfl rfl (ix_in ha ha150) (fm_dec dtX9_perform 48 rfl) ?_
        refine pv_iload (pc := 95) (i := 5) rfl (fm_dec dtX9_perform 49 rfl) ?_
        refine pv_iconst (pc := 97) (v := 1) (by decide) (fm_dec dtX9_perform 50 rfl) ?_
        refine pv_iadd (pc := 98) (fm_dec dtX9_perform 51 rfl) ?_
        refine pv_invV5 (k := 28) (d' := (12 + (200 - g))) (pc := 99) pcv_X9_76 (by decide) rfl (Nat.le_of_ble_eq_true rfl) (by omega) (fm_dec dtX9_perform 52 rfl) ?_
        refine hGG (200 - g) hg M _ n g (aN + 1) e (M.1 31 a.toNatClampNeg) (op + 1) (a + 1) hG (by have := hG.2.2.2.2; omega) (i32_p1 ha (by omega)) (by rw [i32_cl ha]; exact he) hen (fun M99 g99 hI99 f99 hg99 a99 c99 => ?_) 
        refine pv_then0 ?_
        refine pv_iincc (pc := 102) 7 1 (by decide) rfl (by decide) rfl (fm_dec dtX9_perform 53 rfl) ?_
        dsimp only [List.set_cons_zero, List.set_cons_succ]
        refine pv_goto (pc := 105) 59 (by decide) (fm_dec dtX9_perform 54 rfl) ?_
        refine ih M99 g99 (c + 1) _ (hG.fr f99 hI99 hg99 c99) (by omega) (by rw [(f99 29 aN rfl).1]; exact h29) (by rw [(f99 30 aN rfl).1]; exact hv) (i32_p1 hc (by omega)) (by omega) (fun M9 g9 v9 a b d => hq M9 g9 v9 a (pfFr.trans f99 b) (by omega))
theorem xp_G {m : Nat} (h : xpP m) : xpG m := by
  intro M Q n g aN tN to op a hG hm ha ht htn hq
  refine pvGood_of (Nat.le_of_ble_eq_true rfl) ?_
  show pvEv Tx (12 + m) qX9_perform 0 [some (.ref 28), some (.ref 32), some (.ref 47), some (.int a), some (.int to), some (.int op), none, none] [] M Q
  refine pv_iloadn (pc := 0) (n := 3) 3 rfl rfl (fm_dec dtX9_perform 0 rfl) ?_
  refine pv_istore (pc := 1) (i := 6) (by decide) rfl (fm_dec dtX9_perform 1 rfl) ?_
  dsimp only [List.set_cons_zero, List.set_cons_succ]
  exact h M Q n g aN tN a to op a none hG hm ha ht htn hq
set_option maxRecDepth 20000 in
theorem xp_P : ∀ m, xpP m := by
  intro m
  induction m using Nat.strongRecOn with
  | _ m ih =>
    intro M Q n g aN tN fr to op a v7 hG hm ha ht htn hq
    have h4 := hG.2.2.2.1
    refine pv_iload (pc := 3) (i := 6) rfl (fm_dec dtX9_perform 2 rfl) ?_
    refine pv_iload (pc := 5) (i := 4) rfl (fm_dec dtX9_perform 3 rfl) ?_
    refine pv_icmp_ge (pc := 7) 178 (by decide) (fm_dec dtX9_perform 4 rfl) (fun hc7 => ?_) (fun hc7 => ?_)
    · exact pv_return (pc := 178) rfl (fm_dec dtX9_perform 92 rfl) (hq M g hG.2.2.1 scFr.rfl h4 (Nat.le_refl _) hG.2.2.2.2)
    · refine pv_iload (pc := 10) (i := 6) rfl (fm_dec dtX9_perform 5 rfl) ?_
      refine pv_sipush (pc := 12) (v := 150) (by decide) (fm_dec dtX9_perform 6 rfl) ?_
      refine pv_icmp_ge (pc := 15) 178 (by decide) (fm_dec dtX9_perform 7 rfl) (fun hc15 => ?_) (fun hc15 => ?_)
      · exact pv_return (pc := 178) rfl (fm_dec dtX9_perform 92 rfl) (hq M g hG.2.2.1 scFr.rfl h4 (Nat.le_refl _) hG.2.2.2.2)
      · refine pv_aloadn (pc := 18) (n := 0) 0 rfl rfl (fm_dec dtX9_perform 8 rfl) ?_
        refine pv_getI (k := 28) (j := 4) (ci := 9) (pc := 19) pfl_X9_25 (by decide) rfl (by decide) (fm_dec dtX9_perform 9 rfl) ?_
        refine pv_sipush (pc := 22) (v := 200) (by decide) (fm_dec dtX9_perform 10 rfl) ?_
        refine pv_icmp_ge (pc := 25) 178 (by decide) (fm_dec dtX9_perform 11 rfl) (fun hc25 => ?_) (fun hc25 => ?_)
        · exact pv_return (pc := 178) rfl (fm_dec dtX9_perform 92 rfl) (hq M g hG.2.2.1 scFr.rfl h4 (Nat.le_refl _) hG.2.2.2.2)
        · refine pv_iload (pc := 28) (i := 5) rfl (fm_dec dtX9_perform 12 rfl) ?_
          refine pv_bipush (pc := 30) (v := 6) (by decide) (fm_dec dtX9_perform 13 rfl) ?_
          refine pv_icmp_gt (pc := 32) 178 (by decide) (fm_dec dtX9_perform 14 rfl) (fun hc32 => ?_) (fun hc32 => ?_)
          · exact pv_return (pc := 178) rfl (fm_dec dtX9_perform 92 rfl) (hq M g hG.2.2.1 scFr.rfl h4 (Nat.le_refl _) hG.2.2.2.2)
          · have hg2 : g < 200 := (by rw [sc_le] at hc25; have h9 : (200 : Int32).toInt = 200 := (by decide); omega)
            have han : aN < n := (by rw [sc_le] at hc7; omega)
            have ha150 : aN < 150 := (by have := hG.1; omega)
            have hI1 := inv_284 hG.2.2.1 h4 hg2
            have f1 := fr_28 (j := 4) (x := M.1 28 4 + 1) (scFr.rfl (M := M)) (by omega)
            have h1r : ∀ k i, k ≠ 28 → (fmI M 28 4 (M.1 28 4 + 1)).1 k i = M.1 k i := fun k i hk => by rw [fmI_k _ _ hk]
            have hG1 : xQ (fmI M 28 4 (M.1 28 4 + 1)) n (g + 1) := hG.fr f1 hI1 (by rw [fmI_s]; exact i32_p1 h4 (by omega)) (by omega)
            refine pv_aloadn (pc := 35) (n := 0) 0 rfl rfl (fm_dec dtX9_perform 15 rfl) ?_
            refine pv_dup (pc := 36) rfl (fm_dec dtX9_perform 16 rfl) ?_
            refine pv_getI (k := 28) (j := 4) (ci := 9) (pc := 37) pfl_X9_25 (by decide) rfl (by decide) (fm_dec dtX9_perform 17 rfl) ?_
            refine pv_iconst (pc := 40) (v := 1) (by decide) (fm_dec dtX9_perform 18 rfl) ?_
            refine pv_iadd (pc := 41) (fm_dec dtX9_perform 19 rfl) ?_
            refine pv_putI (k := 28) (j := 4) (ci := 9) (pc := 42) pfl_X9_25 (by decide) rfl (by decide) (fm_dec dtX9_perform 20 rfl) ?_
            refine pv_aloadn (pc := 45) (n := 0) 0 rfl rfl (fm_dec dtX9_perform 21 rfl) ?_
            refine pv_getR (k := 28) (j := 0) (ci := 9) (pc := 46) 29 rfl (by decide) pfl_X9_9 (by decide) rfl (by decide) (fm_dec dtX9_perform 22 rfl) ?_
            refine pv_iload (pc := 49) (i := 6) rfl (fm_dec dtX9_perform 23 rfl) ?_
            refine pv_iald (k := 29) (n := 150) (pc := 51) (by decide) rfl rfl (ix_in ha ha150) (fm_dec dtX9_perform 24 rfl) ?_
            refine pv_iconst (pc := 52) (v := 4) (by decide) (fm_dec dtX9_perform 25 rfl) ?_
            refine pv_icmp_ne (pc := 53) 127 (by decide) (fm_dec dtX9_perform 26 rfl) (fun hc53 => ?_) (fun hc53 => ?_)
            · have hn4 : ¬ (M.1 29 aN).toInt = 4 := (fun h9 => hc53 (by rw [i32_cl ha, h1r 29 aN (by decide)]; exact i32_ext (h9.trans (by decide))))
              have hnum : 0 ≤ (M.1 30 aN).toInt ∧ (M.1 30 aN).toInt ≤ 7 := (hG.2.1 aN (Nat.zero_le _) han).2 hn4
              refine pv_aloadn (pc := 127) (n := 1) 1 rfl rfl (fm_dec dtX9_perform 65 rfl) ?_
              refine pv_aloadn (pc := 128) (n := 2) 2 rfl rfl (fm_dec dtX9_perform 66 rfl) ?_
              refine pv_aloadn (pc := 129) (n := 0) 0 rfl rfl (fm_dec dtX9_perform 67 rfl) ?_
              refine pv_getR (k := 28) (j := 0) (ci := 9) (pc := 130) 29 rfl (by decide) pfl_X9_9 (by decide) rfl (by decide) (fm_dec dtX9_perform 68 rfl) ?_
              refine pv_iload (pc := 133) (i := 6) rfl (fm_dec dtX9_perform 69 rfl) ?_
              refine pv_iald (k := 29) (n := 150) (pc := 135) (by decide) rfl rfl (ix_in ha ha150) (fm_dec dtX9_perform 70 rfl) ?_
              refine pv_aloadn (pc := 136) (n := 0) 0 rfl rfl (fm_dec dtX9_perform 71 rfl) ?_
              refine pv_getR (k := 28) (j := 1) (ci := 9) (pc := 137) 30 rfl (by decide) pfl_X9_15 (by decide) rfl (by decide) (fm_dec dtX9_perform 72 rfl) ?_
              refine pv_iload (pc := 140) (i := 6) rfl (fm_dec dtX9_perform 73 rfl) ?_
              refine pv_iald (k := 30) (n := 150) (pc := 142) (by decide) rfl rfl (ix_in ha ha150) (fm_dec dtX9_perform 74 rfl) ?_
              refine pv_iS4 (d' := 5) (pc := 143) pcs_X9_85 (Nat.le_of_ble_eq_true rfl) (by omega) (fm_dec dtX9_perform 75 rfl) ?_
              refine s_pstep (by rw [i32_cl ha, h1r 29 aN (by decide)]; have h9 := hG.2.2.1.1 29 aN ha150; rw [xi_29] at h9; have h8 : 0 ≤ (M.1 29 aN).toInt ∧ (M.1 29 aN).toInt ≤ 4 := h9; omega) (by rw [i32_cl ha, h1r 30 aN (by decide)]; exact hnum) hI1 (fun n143 M143 b143 hI143 f143 => ?_)
              refine pv_then1 ?_
              refine pv_if_eq (pc := 146) 162 (by decide) (fm_dec dtX9_perform 76 rfl) (fun hc146 => ?_) (fun hc146 => ?_)
              · refine pv_aloadn (pc := 162) (n := 0) 0 rfl rfl (fm_dec dtX9_perform 84 rfl) ?_
                refine pv_dup (pc := 163) rfl (fm_dec dtX9_perform 85 rfl) ?_
                refine pv_getI (k := 28) (j := 6) (ci := 9) (pc := 164) pfl_X9_31 (by decide) rfl (by decide) (fm_dec dtX9_perform 86 rfl) ?_
                refine pv_iconst (pc := 167) (v := 1) (by decide) (fm_dec dtX9_perform 87 rfl) ?_
                refine pv_iadd (pc := 168) (fm_dec dtX9_perform 88 rfl) ?_
                refine pv_putI (k := 28) (j := 6) (ci := 9) (pc := 169) pfl_X9_31 (by decide) rfl (by decide) (fm_dec dtX9_perform 89 rfl) ?_
                refine pv_iincc (pc := 172) 6 1 (by decide) rfl (by decide) rfl (fm_dec dtX9_perform 90 rfl) ?_
                dsimp only [List.set_cons_zero, List.set_cons_succ]
                refine pv_goto (pc := 175) 3 (by decide) (fm_dec dtX9_perform 91 rfl) ?_
                have f9 := fr_28 (j := 6) (x := M143.1 28 6 + 1) (scFr.trans f1 f143 (by decide)) (by omega)
                exact (ih (200 - (g + 1)) (by omega) _ Q n (g + 1) (aN + 1) tN _ _ _ _ _ (hG.fr f9 (inv_28 hI143 (by omega)) (by rw [fmI_j _ _ (by decide), (f143 28 4 rfl).1, fmI_s]; exact i32_p1 h4 (by omega)) (by omega)) (by omega) (i32_p1 ha (by omega)) ht htn (hq.fr f9 (by omega))).up (by omega)
              · refine pv_aloadn (pc := 149) (n := 0) 0 rfl rfl (fm_dec dtX9_perform 77 rfl) ?_
                refine pv_dup (pc := 150) rfl (fm_dec dtX9_perform 78 rfl) ?_
                refine pv_getI (k := 28) (j := 5) (ci := 9) (pc := 151) pfl_X9_28 (by decide) rfl (by decide) (fm_dec dtX9_perform 79 rfl) ?_
                refine pv_iconst (pc := 154) (v := 1) (by decide) (fm_dec dtX9_perform 80 rfl) ?_
                refine pv_iadd (pc := 155) (fm_dec dtX9_perform 81 rfl) ?_
                refine pv_putI (k := 28) (j := 5) (ci := 9) (pc := 156) pfl_X9_28 (by decide) rfl (by decide) (fm_dec dtX9_perform 82 rfl) ?_
                refine pv_goto (pc := 159) 172 (by decide) (fm_dec dtX9_perform 83 rfl) ?_
                refine pv_iincc (pc := 172) 6 1 (by decide) rfl (by decide) rfl (fm_dec dtX9_perform 90 rfl) ?_
                dsimp only [List.set_cons_zero, List.set_cons_succ]
                refine pv_goto (pc := 175) 3 (by decide) (fm_dec dtX9_perform 91 rfl) ?_
                have f9 := fr_28 (j := 5) (x := M143.1 28 5 + 1) (scFr.trans f1 f143 (by decide)) (by omega)
                exact (ih (200 - (g + 1)) (by omega) _ Q n (g + 1) (aN + 1) tN _ _ _ _ _ (hG.fr f9 (inv_28 hI143 (by omega)) (by rw [fmI_j _ _ (by decide), (f143 28 4 rfl).1, fmI_s]; exact i32_p1 h4 (by omega)) (by omega)) (by omega) (i32_p1 ha (by omega)) ht htn (hq.fr f9 (by omega))).up (by omega)
            · refine pv_iconst (pc := 56) (v := 0) (by decide) (fm_dec dtX9_perform 27 rfl) ?_
              refine pv_istore (pc := 57) (i := 7) (by decide) rfl (fm_dec dtX9_perform 28 rfl) ?_
              dsimp only [List.set_cons_zero, List.set_cons_succ]
              have h29 : (M.1 29 aN).toInt = 4 := (by have h9 := hc53; rw [i32_cl ha, h1r 29 aN (by decide)] at h9; rw [h9]; decide)
              have hv9 : -1 ≤ (M.1 30 aN).toInt ∧ (M.1 30 aN).toInt ≤ 20 := (by have h9 := hG.2.2.1.1 30 aN ha150; rw [xi_30] at h9; exact h9)
              exact xp_in (fun m' h9 => xp_G (ih m' h9)) ha han ha150 (Nat.le_refl 20) 20 _ (g + 1) 0 0 hG1 (by omega) (by rw [h1r 29 aN (by decide)]; exact h29) (by rw [h1r 30 aN (by decide)]; exact hv9.2) (by decide) (by omega) (fun M' g' v7 h9 f9 a9 => xp_t ih h9 (by omega) ha ha150 ht htn (hq.fr (pfFr.trans f1 f9) (by omega)))
abbrev kpW : List (Nat × Nat × Nat) := [(46, 2, 1), (50, 1, 6), (51, 1, 6), (52, 1, 6), (53, 1, 6), (54, 1, 6), (55, 1, 6), (56, 1, 6), (57, 1, 6), (58, 1, 6), (59, 1, 6), (60, 1, 6), (61, 1, 6), (62, 1, 6), (63, 1, 6), (64, 1, 6), (65, 1, 6), (66, 0, 8), (67, 0, 8), (68, 0, 8), (69, 0, 8), (70, 0, 8), (71, 0, 8), (72, 0, 8), (73, 0, 8), (74, 0, 8), (75, 0, 8), (76, 0, 8), (77, 0, 8), (78, 0, 8), (79, 0, 8), (80, 0, 8), (81, 0, 8)]
def rdM (M : fmM) : fmM := fmI (fmI (fmI (fmI M 28 3 0) 28 4 0) 28 5 0) 28 6 0
set_option maxRecDepth 20000 in
theorem c_xread {M : fmM} {Q : fmR → fmM → Prop} {lv : Int32} (hI : scInv Tx invX M) (hlv : 0 ≤ lv.toInt ∧ lv.toInt ≤ 8) (hq : ∀ (M' : fmM) (z : Nat), scInv Tx invX M' → scFr [(1, 3, 3), (28, 3, 4), (29, 0, 150), (30, 0, 150), (31, 0, 150)] M M' → (M'.1 28 4).toInt = 0 → (M'.1 28 3).toInt = (z : Int) → z ≤ 150 → xS M' 0 z → Q (.inl (some (.int 1))) M') (hn : ∀ M' : fmM, scInv Tx invX M' → scFr [(1, 3, 3), (28, 3, 4), (29, 0, 150), (30, 0, 150), (31, 0, 150)] M M' → Q (.inl (some (.int 0))) M') : pvGood Tx 27 qX9_read [.ref 28, .ref 1, .int lv] M Q := by
  refine pvGood_of (Nat.le_of_ble_eq_true rfl) ?_
  show pvEv Tx 27 qX9_read 0 [some (.ref 28), some (.ref 1), some (.int lv)] [] M Q
  refine pv_aloadn (pc := 0) (n := 0) 0 rfl rfl (fm_dec dtX9_read 0 rfl) ?_
  refine pv_iconst (pc := 1) (v := 0) (by decide) (fm_dec dtX9_read 1 rfl) ?_
  refine pv_putI (k := 28) (j := 3) (ci := 9) (pc := 2) pfl_X9_21 (by decide) rfl (by decide) (fm_dec dtX9_read 2 rfl) ?_
  refine pv_aloadn (pc := 5) (n := 0) 0 rfl rfl (fm_dec dtX9_read 3 rfl) ?_
  refine pv_iconst (pc := 6) (v := 0) (by decide) (fm_dec dtX9_read 4 rfl) ?_
  refine pv_putI (k := 28) (j := 4) (ci := 9) (pc := 7) pfl_X9_25 (by decide) rfl (by decide) (fm_dec dtX9_read 5 rfl) ?_
  refine pv_aloadn (pc := 10) (n := 0) 0 rfl rfl (fm_dec dtX9_read 6 rfl) ?_
  refine pv_iconst (pc := 11) (v := 0) (by decide) (fm_dec dtX9_read 7 rfl) ?_
  refine pv_putI (k := 28) (j := 5) (ci := 9) (pc := 12) pfl_X9_28 (by decide) rfl (by decide) (fm_dec dtX9_read 8 rfl) ?_
  refine pv_aloadn (pc := 15) (n := 0) 0 rfl rfl (fm_dec dtX9_read 9 rfl) ?_
  refine pv_iconst (pc := 16) (v := 0) (by decide) (fm_dec dtX9_read 10 rfl) ?_
  refine pv_putI (k := 28) (j := 6) (ci := 9) (pc := 17) pfl_X9_31 (by decide) rfl (by decide) (fm_dec dtX9_read 11 rfl) ?_
  have hI2 : scInv Tx invX (rdM M) := inv_28 (inv_28 (xInv.put (xInv.put hI (by decide)) (by decide)) (Or.inl rfl)) (Or.inr rfl)
  have f2 : scFr [(1, 3, 3), (28, 3, 4), (29, 0, 150), (30, 0, 150), (31, 0, 150)] M (rdM M) := scFr.toI (scFr.toI (scFr.toI (scFr.toI scFr.rfl rfl) rfl) rfl) rfl
  refine pv_aloadn (pc := 20) (n := 0) 0 rfl rfl (fm_dec dtX9_read 12 rfl) ?_
  refine pv_aloadn (pc := 21) (n := 1) 1 rfl rfl (fm_dec dtX9_read 13 rfl) ?_
  refine pv_iloadn (pc := 22) (n := 2) 2 rfl rfl (fm_dec dtX9_read 14 rfl) ?_
  refine pv_iconst (pc := 23) (v := 0) (by decide) (fm_dec dtX9_read 15 rfl) ?_
  refine pv_invV3 (k := 28) (d' := (8 + 3 * 6)) (pc := 24) pcv_X9_34 (by decide) rfl (Nat.le_of_ble_eq_true rfl) (by omega) (fm_dec dtX9_read 16 rfl) ?_
  refine xg_all 6 (rdM M) _ 0 0 lv 0 hI2 rfl (by decide) hlv rfl (by decide) ⟨fun M24 hI24 f24 k24 => ?_, fun M24 hI24 f24 => ?_⟩  
  · refine pv_then1 ?_
    exact pv_zreturn (pc := 27) rfl (by first | exact Or.inr rfl | exact Or.inl rfl) (fm_dec dtX9_read 17 rfl) (by obtain ⟨z, a, b, c, d, e⟩ := k24; exact hq M24 z hI24 (scFr.trans f2 f24 (by decide)) (by rw [(f24 28 4 rfl).1]; rfl) a c e)
  · refine pv_then1 ?_
    exact pv_zreturn (pc := 27) rfl (by first | exact Or.inr rfl | exact Or.inl rfl) (fm_dec dtX9_read 17 rfl) (hn M24 hI24 (scFr.trans f2 f24 (by decide)))
theorem kpW_k {k j : Nat} (h : k < 46) : scIn kpW k j = false := by
  unfold scIn
  rw [List.any_eq_false]
  intro w hw
  have h9 : ∀ w ∈ kpW, 46 ≤ w.1 := by decide
  have h8 := h9 w hw
  have e : (w.1 == k) = false := by
    rw [beq_eq_false_iff_ne]
    omega
  rw [e]
  simp
set_option maxRecDepth 20000 in
theorem xt_work {M : fmM} {Q : fmR → fmM → Prop} {nn : Int32} (hI : scInv Tx invX M) (hq : ∀ (r : fmR) (M' : fmM), tIx r → scInv Tx invX M' → Q r M') : pvGood Tx 213 qX10_work [.ref 0, .int nn] M Q := by
  refine pvGood_of (Nat.le_of_ble_eq_true rfl) ?_
  show pvEv Tx 213 qX10_work 0 [some (.ref 0), some (.int nn)] [] M Q
  refine pv_aloadn (pc := 0) (n := 0) 0 rfl rfl (fm_dec dtX10_work 0 rfl) ?_
  refine pv_iloadn (pc := 1) (n := 1) 1 rfl rfl (fm_dec dtX10_work 1 rfl) ?_
  refine pv_sipush (pc := 2) (v := 150) (by decide) (fm_dec dtX10_work 2 rfl) ?_
  refine pv_invV2 (k := 0) (d' := 1) (pc := 5) pcv_X10_108 (by decide) rfl (Nat.le_of_ble_eq_true rfl) (by omega) (fm_dec dtX10_work 3 rfl) ?_
  refine s_open (scq_t nn) (scq_t 150) hI (fun M5 hI5 f5 => ?_) (fun M5 hI5 f5 => ?_)
  · refine pv_then0 ?_
    refine pv_aloadn (pc := 8) (n := 0) 0 rfl rfl (fm_dec dtX10_work 4 rfl) ?_
    refine pv_getR (k := 0) (j := 9) (ci := 10) (pc := 9) 46 rfl (by decide) pfl_X10_75 (by decide) rfl (by decide) (fm_dec dtX10_work 5 rfl) ?_
    refine pv_getI (k := 46) (j := 2) (ci := 5) (pc := 12) pfl_X10_126 (by decide) rfl (by decide) (fm_dec dtX10_work 6 rfl) ?_
    refine pv_bipush (pc := 15) (v := 16) (by decide) (fm_dec dtX10_work 7 rfl) ?_
    refine pv_icmp_lt (pc := 17) 23 (by decide) (fm_dec dtX10_work 8 rfl) (fun hc17 => ?_) (fun hc17 => ?_)
    · refine pv_aloadn (pc := 23) (n := 0) 0 rfl rfl (fm_dec dtX10_work 11 rfl) ?_
      refine pv_getR (k := 0) (j := 5) (ci := 10) (pc := 24) 28 rfl (by decide) pfl_X10_43 (by decide) rfl (by decide) (fm_dec dtX10_work 12 rfl) ?_
      refine pv_aloadn (pc := 27) (n := 0) 0 rfl rfl (fm_dec dtX10_work 13 rfl) ?_
      refine pv_getR (k := 0) (j := 0) (ci := 10) (pc := 28) 1 rfl (by decide) pfl_X10_12 (by decide) rfl (by decide) (fm_dec dtX10_work 14 rfl) ?_
      refine pv_aloadn (pc := 31) (n := 0) 0 rfl rfl (fm_dec dtX10_work 15 rfl) ?_
      refine pv_getR (k := 0) (j := 1) (ci := 10) (pc := 32) 3 rfl (by decide) pfl_X10_19 (by decide) rfl (by decide) (fm_dec dtX10_work 16 rfl) ?_
      refine pv_getI (k := 3) (j := 9) (ci := 8) (pc := 35) pfl_X10_138 (by decide) rfl (by decide) (fm_dec dtX10_work 17 rfl) ?_
      refine pv_invV2 (k := 28) (d' := 27) (pc := 38) pcv_X10_142 (by decide) rfl (Nat.le_of_ble_eq_true rfl) (by omega) (fm_dec dtX10_work 18 rfl) ?_
      refine c_xread hI5 (hI5.1 3 9 (by decide)) (fun M38 z hI38 f38 h4 hz hz2 hS => ?_) (fun M38 hI38 f38 => ?_)  
      · refine pv_then1 ?_
        refine pv_if_ne (pc := 41) 55 (by decide) (fm_dec dtX10_work 19 rfl) (fun _ => ?_) (fun hc41 => by exfalso; revert hc41; decide)
        refine pv_aloadn (pc := 55) (n := 0) 0 rfl rfl (fm_dec dtX10_work 26 rfl) ?_
        refine pv_getR (k := 0) (j := 9) (ci := 10) (pc := 56) 46 rfl (by decide) pfl_X10_75 (by decide) rfl (by decide) (fm_dec dtX10_work 27 rfl) ?_
        refine pv_invV0 (k := 46) (d' := 1) (pc := 59) pcv_X10_145 (by decide) rfl (Nat.le_of_ble_eq_true rfl) (by omega) (fm_dec dtX10_work 28 rfl) ?_
        refine s_keepx hI38 (fun M59 hI59 f59 => ?_)
        refine pv_then0 ?_
        have hQ9 : xQ M59 z 0 := ⟨hz2, fun i a b => (hS i a b).up (Nat.le_refl _) (fun k hk => (f59 k i (kpW_k (by omega))).1), hI59, (by rw [(f59 28 4 (kpW_k (by decide))).1]; exact h4), by decide⟩
        refine pv_aloadn (pc := 62) (n := 0) 0 rfl rfl (fm_dec dtX10_work 29 rfl) ?_
        refine pv_getR (k := 0) (j := 5) (ci := 10) (pc := 63) 28 rfl (by decide) pfl_X10_43 (by decide) rfl (by decide) (fm_dec dtX10_work 30 rfl) ?_
        refine pv_aloadn (pc := 66) (n := 0) 0 rfl rfl (fm_dec dtX10_work 31 rfl) ?_
        refine pv_getR (k := 0) (j := 6) (ci := 10) (pc := 67) 32 rfl (by decide) pfl_X10_52 (by decide) rfl (by decide) (fm_dec dtX10_work 32 rfl) ?_
        refine pv_aloadn (pc := 70) (n := 0) 0 rfl rfl (fm_dec dtX10_work 33 rfl) ?_
        refine pv_getR (k := 0) (j := 9) (ci := 10) (pc := 71) 46 rfl (by decide) pfl_X10_75 (by decide) rfl (by decide) (fm_dec dtX10_work 34 rfl) ?_
        refine pv_getR (k := 46) (j := 0) (ci := 5) (pc := 74) 47 rfl (by decide) pfl_X10_90 (by decide) rfl (by decide) (fm_dec dtX10_work 35 rfl) ?_
        refine pv_iconst (pc := 77) (v := 0) (by decide) (fm_dec dtX10_work 36 rfl) ?_
        refine pv_aloadn (pc := 78) (n := 0) 0 rfl rfl (fm_dec dtX10_work 37 rfl) ?_
        refine pv_getR (k := 0) (j := 5) (ci := 10) (pc := 79) 28 rfl (by decide) pfl_X10_43 (by decide) rfl (by decide) (fm_dec dtX10_work 38 rfl) ?_
        refine pv_getI (k := 28) (j := 3) (ci := 9) (pc := 82) pfl_X10_148 (by decide) rfl (by decide) (fm_dec dtX10_work 39 rfl) ?_
        refine pv_iconst (pc := 85) (v := 0) (by decide) (fm_dec dtX10_work 40 rfl) ?_
        refine pv_invV5 (k := 28) (d' := (12 + 200)) (pc := 86) pcv_X10_151 (by decide) rfl (Nat.le_of_ble_eq_true rfl) (by omega) (fm_dec dtX10_work 41 rfl) ?_
        refine xp_G (xp_P 200) M59 _ z 0 0 z _ 0 0 hQ9 (by omega) (by decide) (by rw [(f59 28 3 (kpW_k (by decide))).1]; exact hz) (Nat.le_refl _) (fun M86 g86 hI86 f86 hg86 _ _ => ?_) 
        refine pv_then0 ?_
        refine pv_aloadn (pc := 89) (n := 0) 0 rfl rfl (fm_dec dtX10_work 42 rfl) ?_
        refine pv_aloadn (pc := 90) (n := 0) 0 rfl rfl (fm_dec dtX10_work 43 rfl) ?_
        refine pv_getR (k := 0) (j := 5) (ci := 10) (pc := 91) 28 rfl (by decide) pfl_X10_43 (by decide) rfl (by decide) (fm_dec dtX10_work 44 rfl) ?_
        refine pv_getI (k := 28) (j := 6) (ci := 9) (pc := 94) pfl_X10_155 (by decide) rfl (by decide) (fm_dec dtX10_work 45 rfl) ?_
        refine pv_putI (k := 0) (j := 14) (ci := 10) (pc := 97) pfl_X10_132 (by decide) rfl (by decide) (fm_dec dtX10_work 46 rfl) ?_
        refine pv_aloadn (pc := 100) (n := 0) 0 rfl rfl (fm_dec dtX10_work 47 rfl) ?_
        refine pv_getR (k := 0) (j := 7) (ci := 10) (pc := 101) 34 rfl (by decide) pfl_X10_61 (by decide) rfl (by decide) (fm_dec dtX10_work 48 rfl) ?_
        refine pv_invV0 (k := 34) (d' := 0) (pc := 104) pcv_X10_135 (by decide) rfl (Nat.le_of_ble_eq_true rfl) (by omega) (fm_dec dtX10_work 49 rfl) ?_
        refine s_forget (xInv.put hI86 (scq_t _)) (fun M104 hI104 f104 => ?_)
        refine pv_then0 ?_
        refine pv_aloadn (pc := 107) (n := 0) 0 rfl rfl (fm_dec dtX10_work 50 rfl) ?_
        refine pv_getR (k := 0) (j := 5) (ci := 10) (pc := 108) 28 rfl (by decide) pfl_X10_43 (by decide) rfl (by decide) (fm_dec dtX10_work 51 rfl) ?_
        refine pv_getI (k := 28) (j := 5) (ci := 9) (pc := 111) pfl_X10_158 (by decide) rfl (by decide) (fm_dec dtX10_work 52 rfl) ?_
        exact pv_ireturn (pc := 114) rfl (fm_dec dtX10_work 53 rfl) (hq _ _ (Or.inl ⟨_, rfl⟩) hI104)
      · refine pv_then1 ?_
        refine pv_if_ne (pc := 41) 55 (by decide) (fm_dec dtX10_work 19 rfl) (fun hc41 => by exfalso; revert hc41; decide) (fun _ => ?_)
        refine pv_aloadn (pc := 44) (n := 0) 0 rfl rfl (fm_dec dtX10_work 20 rfl) ?_
        refine pv_getR (k := 0) (j := 0) (ci := 10) (pc := 45) 1 rfl (by decide) pfl_X10_12 (by decide) rfl (by decide) (fm_dec dtX10_work 21 rfl) ?_
        refine pv_getI (k := 1) (j := 4) (ci := 7) (pc := 48) pfl_X10_116 (by decide) rfl (by decide) (fm_dec dtX10_work 22 rfl) ?_
        refine pv_bipush (pc := 51) (v := 10) (by decide) (fm_dec dtX10_work 23 rfl) ?_
        refine pv_isub (pc := 53) (fm_dec dtX10_work 24 rfl) ?_
        exact pv_ireturn (pc := 54) rfl (fm_dec dtX10_work 25 rfl) (hq _ _ (Or.inl ⟨_, rfl⟩) hI38)
    · refine pv_bipush (pc := 20) (v := (-20)) (by decide) (fm_dec dtX10_work 9 rfl) ?_
      exact pv_ireturn (pc := 22) rfl (fm_dec dtX10_work 10 rfl) (hq _ _ (Or.inl ⟨_, rfl⟩) hI5)
  · refine pv_thenX ?_
    exact hq _ _ (Or.inr rfl) hI5
