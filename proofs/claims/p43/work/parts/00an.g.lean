-- P 10gh
section
-- THE CHECKER: memory, ends, calls are right
section ScMem
variable {X : scX} {M0 : fmM} {ρ0 σ : List Int} {s : scS} {L : List (Option Value)} {st : List Value} {M : fmM} {pc pc' : Nat} {succs : List (Nat × scS)}
theorem scCells_ok {T : fmT} {ks : List Nat} {kd n k : Nat} (h : scCells T ks kd n = true) (hk : k ∈ ks) : k < T.1 ∧ T.2.1 k = kd ∧ n < T.2.2.1 k := by
  have := List.all_eq_true.mp h k hk
  simp only [Bool.and_eq_true, Nat.blt_eq, Nat.beq_eq] at this
  exact ⟨this.1.1, this.1.2, this.2⟩
theorem scRd_ok {S : List scV} {st' : List Value} {ks : List Nat} {a n k j : Nat} (hs : scHold X M0 s σ L st M) (h : scRd X pc s S ks a n = some succs) (kk : ∀ q ∈ succs, scGoes X M0 ρ0 σ q) (hS : scSk σ S st') (hk : k ∈ ks) (h1 : a ≤ j) (h2 : j ≤ a + n) (hj : j < X.1.2.2.1 k) : scGoal X M0 ρ0 pc L (.int (M.1 k j) :: st') M := by
  obtain ⟨g1, g2, g3, g4, g5, g6⟩ := id hs
  unfold scRd at h
  split at h
  · rename_i k'
    have e : k = k' := by simpa using hk
    subst e
    have e : j = a := by omega
    subst e
    obtain ⟨τ, q1, q2, q3⟩ := scRead_ok (T := X.1) (k := k) (j := j) g1 g4 g5 hj
    exact scOne_ok (s' := ((scRead X.2.1 s.1 s.2.2.2 k j).1.2, s.2.1, .inl (scRead X.2.1 s.1 s.2.2.2 k j).1.1 :: S, (scRead X.2.1 s.1 s.2.2.2 k j).2)) h kk (τ := τ) ⟨q1, g2.mono, ⟨⟨_, rfl, q2⟩, hS.mono⟩, q3, g5, g6⟩
  · have := scRgs_ok g5 hj h1 h2 hk
    exact scPush_ok hs h kk hS (scNk.new g1 this.1 this.2)
theorem scWt_ok {S : List scV} {st' : List Value} {ks : List Nat} {a n k j : Nat} {e : scI} {v : Option scA} {x : Int32} (hs : scHold X M0 s σ L st M) (h : scWt X pc s S ks a n e v = some succs) (kk : ∀ q ∈ succs, scGoes X M0 ρ0 σ q) (hS : scSk σ S st') (hk : k ∈ ks) (h1 : a ≤ j) (h2 : j ≤ a + n) (hx : e.1 ≤ x.toInt ∧ x.toInt ≤ e.2) (hv : ∀ q, v = some q → scEv σ q x.toInt) : scGoal X M0 ρ0 pc L st' (fmI M k j x) := by
  obtain ⟨g1, g2, g3, g4, g5, g6⟩ := id hs
  unfold scWt at h
  split at h
  · rename_i hw
    obtain ⟨w1, w2⟩ := scWr_ok hw hk h1 h2 hx g5 g6
    have w3 : scFk σ (scKl s.2.2.2 ks a n) (fmI M k j x) := scKl_ok hk h1 h2 g4
    refine scOne_ok h kk (τ := []) ?_
    rw [List.append_nil]
    refine ⟨g1, g2, hS, ?_, w1, w2⟩
    dsimp only
    split
    · rename_i k' q
      have e1 : k = k' := by simpa using hk
      subst e1
      have e2 : j = a := by omega
      subst e2
      intro f hf
      rcases List.mem_cons.mp hf with e3 | hf
      · subst e3
        show scEv σ q ((fmI M k j x).1 k j).toInt
        rw [fmI_s]
        exact hv q rfl
      · exact w3 f hf
    · exact w3
  · cases h
theorem scGet_ok {idx : Nat} (hX : scXk X) (hs : scHold X M0 s σ L st M) (hd : decode X.2.2.2.2.1.2.1 pc = .ok (.getfield idx, 3)) (h : scGet X (pc + 3) s idx = some succs) (kk : ∀ q ∈ succs, scGoes X M0 ρ0 σ q) : scGoal X M0 ρ0 pc L st M := by
  unfold scGet at h
  split at h
  · rename_i ks S e
    have h3 := hs.2.2.1
    rw [e] at h3
    obtain ⟨k, st1, hk, e1, q1⟩ := scSk_r h3
    subst e1
    split at h
    · rename_i f hf
      have hf1 : pvFd X.2.2.2.2.1.1.cls idx = some f := by
        unfold pvFd
        rw [hX.1]
        exact hf
      obtain ⟨f0, fc, fj, ft, fw⟩ := f
      simp only at h
      split at h
      · rename_i hc
        obtain ⟨c1, c2, c3⟩ := scCells_ok hc hk
        split at h
        · exact pv_getI hf1 c1 c2 c3 hd (scRd_ok hs h kk q1 hk (Nat.le_refl _) (Nat.le_refl _) c3)
        · exact pv_getJ hf1 c1 c2 c3 hd (scVals_ok hs h kk ⟨⟨_, rfl, scq_l _⟩, q1⟩)
        · split at h
          · rename_i hb
            have hb' := List.all_eq_true.mp hb k hk
            exact pv_getR _ rfl (by simpa using hb') hf1 c1 c2 c3 hd (scVals_ok hs h kk ⟨⟨_, List.mem_map.mpr ⟨k, hk, rfl⟩, rfl⟩, q1⟩)
          · cases h
        · cases h
      · cases h
    · cases h
  · cases h
theorem scPut_ok {idx : Nat} (hX : scXk X) (hs : scHold X M0 s σ L st M) (hd : decode X.2.2.2.2.1.2.1 pc = .ok (.putfield idx, 3)) (h : scPut X (pc + 3) s idx = some succs) (kk : ∀ q ∈ succs, scGoes X M0 ρ0 σ q) : scGoal X M0 ρ0 pc L st M := by
  obtain ⟨g1, g2, g3, g4, g5, g6⟩ := id hs
  unfold scPut at h
  split at h
  · rename_i v ks S e
    have h3 := hs.2.2.1
    rw [e] at h3
    split at h
    · rename_i f hf
      have hf1 : pvFd X.2.2.2.2.1.1.cls idx = some f := by
        unfold pvFd
        rw [hX.1]
        exact hf
      obtain ⟨f0, fc, fj, ft, fw⟩ := f
      simp only at h
      split at h
      · rename_i hc
        rw [Bool.and_eq_true] at hc
        split at h
        · rename_i a
          obtain ⟨x, st1, e1, hx, q1⟩ := scSk_i h3
          obtain ⟨k, st2, hk, e2, q2⟩ := scSk_r q1
          subst e2
          subst e1
          obtain ⟨c1, c2, c3⟩ := scCells_ok hc.1 hk
          exact pv_putI (by have h9 := hc.2; subst h9; exact hf1) c1 c2 c3 hd (scWt_ok hs h kk q2 hk (Nat.le_refl _) (Nat.le_refl _) (hx.iv g1) (fun q hq => by cases hq; exact hx))
        · rename_i o
          split at h
          · rename_i hw
            obtain ⟨x, st1, e1, hx, q1⟩ := scSk_j h3
            obtain ⟨k, st2, hk, e2, q2⟩ := scSk_r q1
            subst e2
            subst e1
            obtain ⟨c1, c2, c3⟩ := scCells_ok hc.1 hk
            refine pv_putJ (by have h9 := hc.2; subst h9; exact hf1) c1 c2 c3 hd ?_
            have hw' := scWin_in (j := fj) (List.all_eq_true.mp hw k hk) (Nat.le_refl _) (Nat.le_refl _)
            exact scVals_ok (M := fmJ M k fj x) (st := .long x :: .ref k :: st2) ⟨g1, g2, g3, g4, g5, g6.toJ hw'⟩ h kk q2
          · cases h
        · cases h
      · cases h
    · cases h
  · cases h
theorem sc_vin {x : Int32} {e : scI} {n : Nat} (hx : e.1 ≤ x.toInt ∧ x.toInt ≤ e.2) (h0 : 0 ≤ e.1) (h1 : e.2 < n) : vp_in x n ∧ (scIx e).1 ≤ x.toNatClampNeg ∧ x.toNatClampNeg ≤ (scIx e).1 + (scIx e).2 ∧ x.toNatClampNeg < n := by
  have e1 : x.toNatClampNeg = x.toInt.toNat := rfl
  refine ⟨vp_in_iff.mpr ⟨by omega, by omega⟩, ?_⟩
  rw [e1]
  simp only [scIx]
  omega
theorem scInx_ok {T : fmT} {ks : List Nat} {kd k : Nat} {e : scI} (h : scInx T ks kd e = true) (hk : k ∈ ks) : 0 ≤ e.1 ∧ k < T.1 ∧ T.2.1 k = kd ∧ e.2 < T.2.2.1 k := by
  simp only [scInx, Bool.and_eq_true, decide_eq_true_eq] at h
  have := List.all_eq_true.mp h.2 k hk
  simp only [Bool.and_eq_true, Nat.blt_eq, Nat.beq_eq, decide_eq_true_eq] at this
  exact ⟨h.1, this.1.1, this.1.2, this.2⟩
theorem scAldI_ok (hs : scHold X M0 s σ L st M) (hd : decode X.2.2.2.2.1.2.1 pc = .ok (.iaload, 1)) (h : scAld X (pc + 1) s 0 = some succs) (kk : ∀ q ∈ succs, scGoes X M0 ρ0 σ q) : scGoal X M0 ρ0 pc L st M := by
  unfold scAld at h
  split at h
  · rename_i a ks S e
    have h3 := hs.2.2.1
    rw [e] at h3
    obtain ⟨x, st1, e1, hx, q1⟩ := scSk_i h3
    obtain ⟨k, st2, hk, e2, q2⟩ := scSk_r q1
    subst e2
    subst e1
    split at h
    · rename_i hi
      obtain ⟨i0, i1, i2, i3⟩ := scInx_ok hi hk
      obtain ⟨v1, v2, v3, v4⟩ := sc_vin (hx.iv hs.1) i0 i3
      exact pv_iald i1 i2 rfl v1 hd (scRd_ok hs h kk q2 hk v2 v3 v4)
    · cases h
  · cases h
theorem scAldB_ok (hs : scHold X M0 s σ L st M) (hd : decode X.2.2.2.2.1.2.1 pc = .ok (.baload, 1)) (h : scAld X (pc + 1) s 2 = some succs) (kk : ∀ q ∈ succs, scGoes X M0 ρ0 σ q) : scGoal X M0 ρ0 pc L st M := by
  unfold scAld at h
  split at h
  · rename_i a ks S e
    have h3 := hs.2.2.1
    rw [e] at h3
    obtain ⟨x, st1, e1, hx, q1⟩ := scSk_i h3
    obtain ⟨k, st2, hk, e2, q2⟩ := scSk_r q1
    subst e2
    subst e1
    split at h
    · rename_i hi
      obtain ⟨i0, i1, i2, i3⟩ := scInx_ok hi hk
      obtain ⟨v1, v2, v3, v4⟩ := sc_vin (hx.iv hs.1) i0 i3
      exact pv_bald i1 i2 rfl v1 hd (scRd_ok hs h kk q2 hk v2 v3 v4)
    · cases h
  · cases h
theorem scAldJ_ok (hs : scHold X M0 s σ L st M) (hd : decode X.2.2.2.2.1.2.1 pc = .ok (.laload, 1)) (h : scAld X (pc + 1) s 1 = some succs) (kk : ∀ q ∈ succs, scGoes X M0 ρ0 σ q) : scGoal X M0 ρ0 pc L st M := by
  unfold scAld at h
  split at h
  · rename_i a ks S e
    have h3 := hs.2.2.1
    rw [e] at h3
    obtain ⟨x, st1, e1, hx, q1⟩ := scSk_i h3
    obtain ⟨k, st2, hk, e2, q2⟩ := scSk_r q1
    subst e2
    subst e1
    split at h
    · rename_i hi
      obtain ⟨i0, i1, i2, i3⟩ := scInx_ok hi hk
      obtain ⟨v1, v2, v3, v4⟩ := sc_vin (hx.iv hs.1) i0 i3
      exact pv_lald i1 i2 rfl v1 hd (scVals_ok hs h kk ⟨⟨_, rfl, scq_l _⟩, q2⟩)
    · cases h
  · cases h
theorem scAstI_ok (hs : scHold X M0 s σ L st M) (hd : decode X.2.2.2.2.1.2.1 pc = .ok (.iastore, 1)) (h : scAst X (pc + 1) s 0 = some succs) (kk : ∀ q ∈ succs, scGoes X M0 ρ0 σ q) : scGoal X M0 ρ0 pc L st M := by
  unfold scAst at h
  split at h
  · rename_i v a ks S e
    have h3 := hs.2.2.1
    rw [e] at h3
    split at h
    · rename_i hi
      split at h
      · rename_i v' _
        obtain ⟨w, st0, e0, hw, q0⟩ := scSk_i h3
        obtain ⟨x, st1, e1, hx, q1⟩ := scSk_i q0
        obtain ⟨k, st2, hk, e2, q2⟩ := scSk_r q1
        subst e2
        subst e1
        subst e0
        obtain ⟨i0, i1, i2, i3⟩ := scInx_ok hi hk
        obtain ⟨v1, v2, v3, v4⟩ := sc_vin (hx.iv hs.1) i0 i3
        exact pv_iast i1 i2 rfl v1 hd (scWt_ok hs h kk q2 hk v2 v3 (hw.iv hs.1) (fun q hq => by cases hq; exact hw))
      · omega
      · omega
      · cases h
    · cases h
  · cases h
theorem scq_nar (x : Int32) : -128 ≤ (vp_nar .byte x).toInt ∧ (vp_nar .byte x).toInt ≤ 127 := by
  have e : vp_nar .byte x = x.toInt8.toInt32 := rfl
  rw [e, Int8.toInt_toInt32]
  have h1 := x.toInt8.le_toInt
  have h2 := x.toInt8.toInt_lt
  omega
theorem scAstB_ok (hs : scHold X M0 s σ L st M) (hd : decode X.2.2.2.2.1.2.1 pc = .ok (.bastore, 1)) (h : scAst X (pc + 1) s 2 = some succs) (kk : ∀ q ∈ succs, scGoes X M0 ρ0 σ q) : scGoal X M0 ρ0 pc L st M := by
  unfold scAst at h
  split at h
  · rename_i v a ks S e
    have h3 := hs.2.2.1
    rw [e] at h3
    split at h
    · rename_i hi
      split at h
      · omega
      · obtain ⟨w, st0, e0, hw, q0⟩ := scSk_i h3
        obtain ⟨x, st1, e1, hx, q1⟩ := scSk_i q0
        obtain ⟨k, st2, hk, e2, q2⟩ := scSk_r q1
        subst e2
        subst e1
        subst e0
        obtain ⟨i0, i1, i2, i3⟩ := scInx_ok hi hk
        obtain ⟨v1, v2, v3, v4⟩ := sc_vin (hx.iv hs.1) i0 i3
        exact pv_bast i1 i2 rfl v1 hd (scWt_ok hs h kk q2 hk v2 v3 (scq_nar w) (fun q hq => by cases hq))
      · omega
      · cases h
    · cases h
  · cases h
theorem scAstJ_ok (hs : scHold X M0 s σ L st M) (hd : decode X.2.2.2.2.1.2.1 pc = .ok (.lastore, 1)) (h : scAst X (pc + 1) s 1 = some succs) (kk : ∀ q ∈ succs, scGoes X M0 ρ0 σ q) : scGoal X M0 ρ0 pc L st M := by
  obtain ⟨g1, g2, g3, g4, g5, g6⟩ := id hs
  unfold scAst at h
  split at h
  · rename_i v a ks S e
    have h3 := hs.2.2.1
    rw [e] at h3
    split at h
    · rename_i hi
      split at h
      · omega
      · omega
      · split at h
        · rename_i hwn
          obtain ⟨w, st0, e0, hw, q0⟩ := scSk_j h3
          obtain ⟨x, st1, e1, hx, q1⟩ := scSk_i q0
          obtain ⟨k, st2, hk, e2, q2⟩ := scSk_r q1
          subst e2
          subst e1
          subst e0
          obtain ⟨i0, i1, i2, i3⟩ := scInx_ok hi hk
          obtain ⟨v1, v2, v3, v4⟩ := sc_vin (hx.iv hs.1) i0 i3
          refine pv_last i1 i2 rfl v1 hd ?_
          have hw' := scWin_in (List.all_eq_true.mp hwn k hk) v2 v3
          exact scVals_ok (M := fmJ M k x.toNatClampNeg w) (st := .long w :: .int x :: .ref k :: st2) ⟨g1, g2, g3, g4, g5, g6.toJ hw'⟩ h kk q2
        · cases h
      · cases h
    · cases h
  · cases h
theorem scAald_ok (hs : scHold X M0 s σ L st M) (hd : decode X.2.2.2.2.1.2.1 pc = .ok (.aaload, 1)) (h : scAald X (pc + 1) s = some succs) (kk : ∀ q ∈ succs, scGoes X M0 ρ0 σ q) : scGoal X M0 ρ0 pc L st M := by
  unfold scAald at h
  split at h
  · rename_i a ks S e
    have h3 := hs.2.2.1
    rw [e] at h3
    obtain ⟨x, st1, e1, hx, q1⟩ := scSk_i h3
    obtain ⟨k, st2, hk, e2, q2⟩ := scSk_r q1
    subst e2
    subst e1
    split at h
    · rename_i hi
      simp only [Bool.and_eq_true, decide_eq_true_eq] at hi
      obtain ⟨hi, hb⟩ := hi
      have hi2 := List.all_eq_true.mp hi.2 k hk
      simp only [Bool.and_eq_true, decide_eq_true_eq, Nat.blt_eq, Nat.ble_eq] at hi2
      obtain ⟨⟨⟨i1, i2⟩, i3⟩, i4⟩ := hi2
      obtain ⟨v1, v2, v3, v4⟩ := sc_vin (hx.iv hs.1) hi.1 i4
      have hb' : X.1.2.2.2 k x.toNatClampNeg < 1000 := by
        have := List.all_eq_true.mp hb k hk
        have := List.all_eq_true.mp this (x.toNatClampNeg - (scIx (scIv s.1 a)).1) (List.mem_range.mpr (by omega))
        rw [Nat.add_sub_cancel' v2] at this
        simpa using this
      refine pv_aald i1 (by omega) rfl v1 rfl hb' hd (scVals_ok hs h kk ⟨⟨_, List.mem_flatMap.mpr ⟨k, hk, List.mem_map.mpr ⟨x.toNatClampNeg - (scIx (scIv s.1 a)).1, List.mem_range.mpr (by omega), ?_⟩⟩, rfl⟩, q2⟩)
      rw [Nat.add_sub_cancel' v2]
    · cases h
  · cases h
theorem scAlen_ok (hs : scHold X M0 s σ L st M) (hd : decode X.2.2.2.2.1.2.1 pc = .ok (.arraylength, 1)) (h : scAlen X (pc + 1) s = some succs) (kk : ∀ q ∈ succs, scGoes X M0 ρ0 σ q) : scGoal X M0 ρ0 pc L st M := by
  unfold scAlen at h
  split at h
  · rename_i k' ks S e
    have h3 := hs.2.2.1
    rw [e] at h3
    obtain ⟨k, st1, hk, e1, q1⟩ := scSk_r h3
    subst e1
    split at h
    · rename_i hi
      rw [Bool.and_eq_true, Nat.blt_eq] at hi
      have hi2 := List.all_eq_true.mp hi.1 k hk
      simp only [Bool.and_eq_true, Nat.blt_eq, Nat.ble_eq, Nat.beq_eq] at hi2
      obtain ⟨⟨i1, i2⟩, i3⟩ := hi2
      have hv : (Int32.ofNat (X.1.2.2.1 k)).toInt = (X.1.2.2.1 k' : Int) := by
        rw [i3]
        exact Int32.toInt_ofNat_of_lt (by omega)
      have hS : scSk σ (.inl (none, (X.1.2.2.1 k' : Int)) :: S) (.int (Int32.ofNat (X.1.2.2.1 k)) :: st1) := ⟨⟨_, rfl, hv⟩, q1⟩
      rcases (show X.1.2.1 k = 0 ∨ X.1.2.1 k = 1 by omega) with e0 | e0
      · exact pv_alenI i1 e0 rfl rfl hd (scVals_ok hs h kk hS)
      · exact pv_alenJ i1 e0 rfl rfl hd (scVals_ok hs h kk hS)
    · cases h
  · cases h
theorem scMmx_ok {idx i0 : Nat} {b : Bool} (hm : pvMm X.2.2.2.2.1.1.cls idx = some (i0, b)) (hs : scHold X M0 s σ L st M) (hd : decode X.2.2.2.2.1.2.1 pc = .ok (.invokestatic idx, 3)) (h : scMmx X (pc + 3) s b = some succs) (kk : ∀ q ∈ succs, scGoes X M0 ρ0 σ q) : scGoal X M0 ρ0 pc L st M := by
  unfold scMmx at h
  split at h
  · rename_i z x S e
    have h3 := hs.2.2.1
    rw [e] at h3
    obtain ⟨vz, st1, e1, hz, q1⟩ := scSk_i h3
    obtain ⟨vx, st2, e2, hx, q2⟩ := scSk_i q1
    subst e2
    subst e1
    split at h
    · rename_i hc
      simp only [Bool.and_eq_true, Nat.ble_eq] at hc
      refine pv_mm hm hc.1 (by unfold pvCat; rw [scSk_cat q2]; exact hc.2) hd (scPush_ok hs h kk q2 ?_)
      have ix := hx.iv hs.1
      have iz := hz.iv hs.1
      have bd : (if b then scMax (scIv s.1 x) (scIv s.1 z) else scMin (scIv s.1 x) (scIv s.1 z)).1 ≤ (pvMx b vx vz).toInt ∧ (pvMx b vx vz).toInt ≤ (if b then scMax (scIv s.1 x) (scIv s.1 z) else scMin (scIv s.1 x) (scIv s.1 z)).2 := by
        cases b with
        | true =>
          simp only [if_true, pvMx, scMax]
          by_cases hle : vx.toInt ≤ vz.toInt
          · simp only [hle, if_true]
            constructor <;> split <;> omega
          · simp only [hle, if_false]
            constructor <;> split <;> omega
        | false =>
          simp only [Bool.false_eq_true, if_false, pvMx, scMin]
          by_cases hle : vx.toInt ≤ vz.toInt
          · simp only [hle, if_true]
            constructor <;> split <;> omega
          · simp only [hle, if_false]
            constructor <;> split <;> omega
      exact scNk.new hs.1 bd.1 bd.2
    · cases h
  · cases h
end ScMem
end
