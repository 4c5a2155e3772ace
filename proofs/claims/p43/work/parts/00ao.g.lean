-- P 10gi
section
-- THE CHECKER: copies, constants, switches, ends, calls
section ScMore
variable {X : scX} {M0 : fmM} {ρ0 σ : List Int} {s : scS} {L : List (Option Value)} {st : List Value} {M : fmM} {pc pc' : Nat} {succs : List (Nat × scS)}
theorem scq_cpy (f g : Nat → Int32) (n j : Nat) : va_cpy f g 0 0 n j = if j < n then f j else g j := by
  simp [va_cpy]
theorem scCpy_ok {idx : Nat} (hm9 : pvMm X.2.2.2.2.1.1.cls idx = none) (hc9 : pvCp X.2.2.2.2.1.1.cls idx = true) (hs : scHold X M0 s σ L st M) (hd : decode X.2.2.2.2.1.2.1 pc = .ok (.invokestatic idx, 3)) (h : scCpy X (pc + 3) s = some succs) (kk : ∀ q ∈ succs, scGoes X M0 ρ0 σ q) : scGoal X M0 ρ0 pc L st M := by
  obtain ⟨g1, g2, g3, g4, g5, g6⟩ := id hs
  unfold scCpy at h
  split at h
  · rename_i n dp ks1 sp ks0 S e
    have h3 := g3
    rw [e] at h3
    obtain ⟨vn, st1, e1, hn, q1⟩ := scSk_i h3
    obtain ⟨vd, st2, e2, hdp, q2⟩ := scSk_i q1
    obtain ⟨k1, st3, hk1, e3, q3⟩ := scSk_r q2
    obtain ⟨vs, st4, e4, hsp, q4⟩ := scSk_i q3
    obtain ⟨k0, st5, hk0, e5, q5⟩ := scSk_r q4
    subst e5
    subst e4
    subst e3
    subst e2
    subst e1
    split at h
    · rename_i hc
      simp only [Bool.and_eq_true, decide_eq_true_eq, Nat.ble_eq] at hc
      obtain ⟨⟨⟨⟨⟨⟨c1, c2⟩, c3⟩, c4⟩, c5⟩, c6⟩, c7⟩ := hc
      have in1 := hn.iv g1
      have id1 := hdp.iv g1
      have is1 := hsp.iv g1
      rw [c1] at id1
      rw [c2] at is1
      simp only at id1 is1
      have c6' := List.all_eq_true.mp c6 k0 hk0
      simp only [Bool.and_eq_true, Nat.blt_eq, Nat.ble_eq, Nat.beq_eq] at c6'
      have c7' := List.all_eq_true.mp c7 k1 hk1
      simp only [Bool.and_eq_true, Nat.blt_eq, Nat.ble_eq, Nat.beq_eq] at c7'
      obtain ⟨⟨⟨⟨⟨a1, a2⟩, a3⟩, a4⟩, a6⟩, a5⟩ := c7'
      have a5' := List.all_eq_true.mp a5 k0 hk0
      have ed : vd.toNatClampNeg = 0 := by show vd.toInt.toNat = 0; omega
      have es : vs.toNatClampNeg = 0 := by show vs.toInt.toNat = 0; omega
      have en : vn.toNatClampNeg = (scIv s.1 n).1.toNat := by show vn.toInt.toNat = _; omega
      have z0 : (0 : Int32).toInt = 0 := by decide
      refine pv_copy (k0 := k0) (k1 := k1) hm9 hc9 c6'.1.1 c6'.1.2 rfl a1 a2 rfl (by omega) (by omega) (by omega) (by rw [es, en]; omega) (by rw [ed, en]; omega) (by unfold pvCat; rw [scSk_cat q5]; omega) hd ?_
      rw [ed, es, en]
      generalize hm : (scIv s.1 n).1.toNat = m at *
      have hm1 : 1 ≤ m := by omega
      refine scOne_ok h kk (τ := []) ?_
      rw [List.append_nil]
      refine ⟨g1, g2, q5, ?_, ?_, ?_⟩
      · intro f hf
        obtain ⟨hf, hnf⟩ := List.mem_filter.mp hf
        have hF := g4 f hf
        by_cases e1 : f.1.1 = k1
        · by_cases e2 : f.1.2 < m
          · exfalso
            have : (ks1.contains f.1.1 && Nat.ble 0 f.1.2 && Nat.ble f.1.2 (0 + (m - 1))) = true := by
              rw [e1]
              simp only [Bool.and_eq_true, Nat.ble_eq, List.contains_iff_mem]
              exact ⟨⟨hk1, Nat.zero_le _⟩, by omega⟩
            rw [this] at hnf
            cases hnf
          · rw [e1] at hF ⊢
            rw [fmA_s, scq_cpy, if_neg e2]
            exact hF
        · rw [fmA_k _ _ e1]
          exact hF
      · refine ⟨?_, scFree_ok a6 g5.2 (fun k' j' hn => ?_)⟩
        rotate_left
        · by_cases e1 : k' = k1
          · subst e1
            rw [fmA_s, scq_cpy, if_neg (fun h9 => hn ⟨rfl, Nat.zero_le _, by omega⟩)]
          · rw [fmA_k _ _ e1]
        intro k' j' hj'
        by_cases e1 : k' = k1
        · subst e1
          rw [fmA_s, scq_cpy]
          split
          · rename_i hjm
            exact scSub_ok (List.all_eq_true.mp a5' j' (List.mem_range.mpr hjm)) (g5.1 k0 j' (by omega))
          · exact g5.1 k' j' hj'
        · rw [fmA_k _ _ e1]
          exact g5.1 k' j' hj'
      · intro k' j' hn'
        have hF := g6 k' j' hn'
        refine ⟨?_, hF.2⟩
        rw [← hF.1]
        by_cases e1 : k' = k1
        · subst e1
          rw [fmA_s, scq_cpy]
          split
          · rename_i hjm
            rw [scWin_in a4 (Nat.zero_le _) (by omega)] at hn'
            cases hn'
          · rfl
        · rw [fmA_k _ _ e1]
    · cases h
  · cases h
theorem scKc_of {idx : Nat} {r : Option (Nat × (Int32 ⊕ Int64))} (hX : scXk X) (h : X.2.2.1.1.2.1.find? (fun q => Nat.beq q.1 idx) = r) : pvKc X.2.2.2.2.1.1.cls idx = r := by
  unfold pvKc
  rw [hX.1]
  exact h
theorem scLdcI_ok {idx : Nat} (hX : scXk X) (hs : scHold X M0 s σ L st M) (hd : decode X.2.2.2.2.1.2.1 pc = .ok (.ldc idx, 2)) (h : scLdc X (pc + 2) s idx 0 = some succs) (kk : ∀ q ∈ succs, scGoes X M0 ρ0 σ q) : scGoal X M0 ρ0 pc L st M := by
  unfold scLdc at h
  split at h
  · rename_i i v hf
    split at h
    · exact pv_ldc (scKc_of hX hf) hd (scVals_ok hs h kk ⟨⟨v, rfl, rfl⟩, hs.2.2.1⟩)
    · cases h
  · split at h
    · rename_i ht; cases ht
    · cases h
  · rename_i hf
    split at h
    · split at h
      · rename_i q hq
        have ht : pvTx X.2.2.2.2.1.1.cls idx = some q := by
          unfold pvTx
          rw [hX.1]
          exact hq
        exact pv_ldcT (scKc_of hX hf) ht hd (scVals_ok hs h kk ⟨rfl, hs.2.2.1⟩)
      · cases h
    · cases h
theorem scLdcJ_ok {idx : Nat} (hX : scXk X) (hs : scHold X M0 s σ L st M) (hd : decode X.2.2.2.2.1.2.1 pc = .ok (.ldc2_w idx, 3)) (h : scLdc X (pc + 3) s idx 1 = some succs) (kk : ∀ q ∈ succs, scGoes X M0 ρ0 σ q) : scGoal X M0 ρ0 pc L st M := by
  unfold scLdc at h
  split at h
  · split at h
    · rename_i ht; cases ht
    · cases h
  · rename_i i v hf
    split at h
    · exact pv_ldc2 (scKc_of hX hf) hd (scVals_ok hs h kk ⟨⟨v, rfl, Int.le_refl _, Int.le_refl _⟩, hs.2.2.1⟩)
    · cases h
  · split at h
    · rename_i ht; cases ht
    · cases h
theorem scStr_ok {idx : Nat} (hX : scXk X) (hs : scHold X M0 s σ L st M) (hd : decode X.2.2.2.2.1.2.1 pc = .ok (.invokevirtual idx, 3)) (h : scStr X (pc + 3) s idx = some succs) (kk : ∀ q ∈ succs, scGoes X M0 ρ0 σ q) : scGoal X M0 ρ0 pc L st M := by
  unfold scStr at h
  split at h
  · rename_i q hf
    have hm := hX.2 q (List.mem_of_find?_eq_some hf)
    have hi := List.find?_some hf
    simp only [Bool.and_eq_true, Nat.beq_eq] at hi
    have hi := hi.1
    obtain ⟨qi, qk, qc⟩ := q
    simp only at hi
    subst hi
    split at h
    · rename_i e2
      simp only at e2
      subst e2
      obtain ⟨i0, ci, y', hq⟩ := hm
      split at h
      · rename_i t S e
        have h3 := hs.2.2.1
        rw [e] at h3
        cases st with
        | nil => exact h3.elim
        | cons w st =>
          obtain ⟨hw, q1⟩ := h3
          have hw : w = .ref (1000 + t) := hw
          subst hw
          split at h
          · rename_i hc
            simp only [Bool.and_eq_true, Nat.ble_eq, Nat.blt_eq] at hc
            exact pv_strlen hq hc.1.1 hc.1.2 (by unfold pvCat; rw [scSk_cat q1]; exact hc.2) hd (scVals_ok hs h kk ⟨⟨_, rfl, rfl⟩, q1⟩)
          · cases h
      · cases h
    · rename_i e2
      simp only at e2
      subst e2
      obtain ⟨i0, ci, y', hq⟩ := hm
      split at h
      · rename_i a t S e
        have h3 := hs.2.2.1
        rw [e] at h3
        obtain ⟨x, st1, e1, hx, q0⟩ := scSk_i h3
        cases st1 with
        | nil => exact q0.elim
        | cons w st2 =>
          obtain ⟨hw, q1⟩ := q0
          have hw : w = .ref (1000 + t) := hw
          subst hw
          subst e1
          split at h
          · rename_i hc
            simp only [Bool.and_eq_true, Nat.ble_eq, Nat.blt_eq, decide_eq_true_eq] at hc
            obtain ⟨⟨⟨⟨⟨b1, b2⟩, b3⟩, b4⟩, b5⟩, b6⟩ := hc
            have ix := hx.iv hs.1
            have ex : x.toNatClampNeg = (scIv s.1 a).1.toNat := by show x.toInt.toNat = _; omega
            refine pv_charAt hq b1 (by omega) (by omega) b2 (by unfold pvCat; rw [scSk_cat q1]; exact b3) hd (scVals_ok hs h kk ⟨⟨_, rfl, ?_⟩, q1⟩)
            rw [ex]
            exact (rfl : (chE t (scIv s.1 a).1.toNat).toInt = _)
          · cases h
      · cases h
    · cases h
  · cases h
theorem scTab_ok {dflt lo hi : Int} {offs : Array Int} {len : Nat} (hs : scHold X M0 s σ L st M) (hd : decode X.2.2.2.2.1.2.1 pc = .ok (.tableswitch dflt lo hi offs, len)) (h : scTab pc s dflt lo hi offs = some succs) (kk : ∀ q ∈ succs, scGoes X M0 ρ0 σ q) : scGoal X M0 ρ0 pc L st M := by
  obtain ⟨g1, g2, g3, g4, g5, g6⟩ := id hs
  unfold scTab at h
  split at h
  · rename_i a S e
    have h3 := g3
    rw [e] at h3
    obtain ⟨x, st1, e1, hx, q1⟩ := scSk_i h3
    subst e1
    have ix := hx.iv g1
    split at h
    · rename_i hc
      simp only [Bool.and_eq_true, decide_eq_true_eq, Nat.beq_eq] at hc
      obtain ⟨⟨c1, c2⟩, c3⟩ := hc
      cases h
      by_cases hr : x.toInt < lo ∨ hi < x.toInt
      · refine pv_table ((pc : Int) + dflt).toNat c1 ?_ hd ?_
        · simp only [fmTsw, if_pos hr]
          omega
        · refine kk (((pc : Int) + dflt).toNat, (s.1, s.2.1, S, s.2.2.2)) (List.mem_append_left _ ?_) [] L st1 M (by rw [List.append_nil]; exact ⟨g1, g2, q1, g4, g5, g6⟩)
          rw [if_neg]
          · exact List.mem_cons_self
          · simp only [Bool.and_eq_true, decide_eq_true_eq]
            omega
      · have hq : (x.toInt - lo).toNat < (hi - lo + 1).toNat := by omega
        have c3' := List.all_eq_true.mp c3 _ (List.mem_range.mpr hq)
        simp only [decide_eq_true_eq] at c3'
        refine pv_table ((pc : Int) + offs.getD (x.toInt - lo).toNat 0).toNat c1 ?_ hd ?_
        · simp only [fmTsw, if_neg hr]
          omega
        · have el : lo + ((x.toInt - lo).toNat : Int) = x.toInt := by omega
          obtain ⟨env', k1, k2⟩ := scCut_ok (lo := lo + ((x.toInt - lo).toNat : Int)) (hi := lo + ((x.toInt - lo).toNat : Int)) g1 hx (by omega) (by omega)
          refine kk (_, (env', s.2.1, S, s.2.2.2)) (List.mem_append_right _ (List.mem_flatMap.mpr ⟨_, List.mem_range.mpr hq, ?_⟩)) [] L st1 M (by rw [List.append_nil]; exact ⟨k2, g2, q1, g4, g5, g6⟩)
          rw [k1]
          exact List.mem_cons_self
    · cases h
  · cases h
theorem scOut_ok {ent : Bool} {env : List scI} {F : List scF} {kind : Nat} {e : scI} {r : fmR} (hρ : ρ0.length = X.2.2.2.2.2.2.1.length) (he : ent = true → ∃ τ, σ = ρ0 ++ τ) (g1 : scEk env σ) (g4 : scFk σ F M) (g5 : scInv X.1 X.2.1 M) (g6 : scFr (scW X) M0 M) (h : scOut X ent env F kind e = true) (hr : ∀ o : scO, o.1 = kind → scSub e o.2.1 = true → scRk o r) : scEnd X.1 X.2.1 X.2.2.2.2 ρ0 M0 r M := by
  obtain ⟨o, ho, h⟩ := List.any_eq_true.mp h
  simp only [Bool.and_eq_true, Nat.beq_eq] at h
  obtain ⟨⟨⟨⟨h1, h2⟩, h3⟩, h4⟩, h5⟩ := h
  refine ⟨⟨o, ho, hr o h1 h2, fun q hq => ?_, fun q hq => ?_⟩, g5, g6⟩
  · have h4' := List.all_eq_true.mp h4 q hq
    simp only [Bool.and_eq_true, Nat.blt_eq] at h4'
    rw [Bool.or_eq_true] at h3
    rcases h3 with h3 | h3
    · obtain ⟨τ, et⟩ := he h3
      have hl : q.1 < ρ0.length := by rw [hρ]; exact h4'.1
      have hx : σ[q.1]? = some ρ0[q.1] := by rw [et, List.getElem?_append_left hl]; exact List.getElem?_eq_getElem hl
      refine ⟨ρ0[q.1], List.getElem?_eq_getElem hl, ?_⟩
      have hle : q.1 < env.length := by rw [g1.1]; exact (List.getElem?_eq_some_iff.mp hx).1
      have hb := g1.2 q.1 env[q.1] _ (List.getElem?_eq_getElem hle) hx
      have eg : env.getD q.1 scTop = env[q.1] := by simp [List.getD, List.getElem?_eq_getElem hle]
      rw [eg] at h4'
      exact scSub_ok h4'.2 hb
    · rw [List.isEmpty_iff] at h3
      rw [h3] at hq
      cases hq
  · have h5' := List.all_eq_true.mp h5 q hq
    simp only [Bool.and_eq_true, Nat.blt_eq] at h5'
    cases hf : scFact F q.1.1 q.1.2 with
    | none =>
      rw [hf] at h5'
      exact scSub_ok h5'.2 (g5.1 _ _ h5'.1)
    | some f =>
      rw [hf] at h5'
      have h6 := List.find?_some hf
      simp only [Bool.and_eq_true, beq_iff_eq] at h6
      have h7 := g4 f (List.mem_of_find?_eq_some hf)
      rw [h6.1, h6.2] at h7
      exact scSub_ok h5'.2 (h7.iv g1)
theorem scCutR_ok {B : scB} {ρ : List Int} (hB : scBk σ B ρ) : ∀ {qs : List (Nat × scI)} {env : List scI}, scEk env σ → (∀ q ∈ qs, ∃ x, ρ[q.1]? = some x ∧ q.2.1 ≤ x ∧ x ≤ q.2.2) → ∃ env', scCutR B qs env = some env' ∧ scEk env' σ
  | [], env, h, _ => ⟨env, rfl, h⟩
  | q :: qs, env, h, hq => by
    obtain ⟨x, hx, h1, h2⟩ := hq q List.mem_cons_self
    simp only [scCutR]
    split
    · rename_i b hb
      have hb' : B[q.1]? = some (some b) := by
        simp only [List.getD] at hb
        cases hL : B[q.1]? with
        | none => rw [hL] at hb; simp at hb
        | some w => rw [hL] at hb; simp at hb; rw [hb]
      obtain ⟨x', hx', hv⟩ := hB _ _ hb'
      rw [hx] at hx'
      cases hx'
      obtain ⟨e1, k1, k2⟩ := scCut_ok h hv h1 h2
      obtain ⟨e2, k3, k4⟩ := scCutR_ok hB (qs := qs) k2 (fun q' hq' => hq q' (List.mem_cons_of_mem _ hq'))
      exact ⟨e2, by rw [k1]; exact k3, k4⟩
    · exact scCutR_ok hB h (fun q' hq' => hq q' (List.mem_cons_of_mem _ hq'))
theorem scMem_ok {M' : fmM} : ∀ {qs : List ((Nat × Nat) × scI)} {env : List scI} {F : List scF} {σ : List Int}, scEk env σ → scFk σ F M' → (∀ q ∈ qs, q.2.1 ≤ (M'.1 q.1.1 q.1.2).toInt ∧ (M'.1 q.1.1 q.1.2).toInt ≤ q.2.2) → ∃ (r : List scI × List scF) (τ : List Int), scMem qs env F = some r ∧ scEk r.1 (σ ++ τ) ∧ scFk (σ ++ τ) r.2 M'
  | [], env, F, σ, h, hF, _ => ⟨(env, F), [], rfl, by simpa using h, by simpa using hF⟩
  | q :: qs, env, F, σ, h, hF, hq => by
    have h1 := hq q List.mem_cons_self
    simp only [scMem]
    split
    · rename_i f hf
      have h6 := List.find?_some hf
      simp only [Bool.and_eq_true, beq_iff_eq] at h6
      have h7 := hF f (List.mem_of_find?_eq_some hf)
      rw [h6.1, h6.2] at h7
      obtain ⟨e1, k1, k2⟩ := scCut_ok h h7 h1.1 h1.2
      obtain ⟨r, τ, k3, k4, k5⟩ := scMem_ok (qs := qs) k2 hF (fun q' hq' => hq q' (List.mem_cons_of_mem _ hq'))
      exact ⟨r, τ, by rw [k1]; exact k3, k4, k5⟩
    · have hF' : scFk (σ ++ [(M'.1 q.1.1 q.1.2).toInt]) ((q.1, (some env.length, 0)) :: F) M' := by
        intro f hf
        rcases List.mem_cons.mp hf with e | hf
        · subst e
          exact scEv.new h
        · exact (hF f hf).mono
      obtain ⟨r, τ, k3, k4, k5⟩ := scMem_ok (qs := qs) (h.push h1.1 h1.2) hF' (fun q' hq' => hq q' (List.mem_cons_of_mem _ hq'))
      exact ⟨r, _ ++ τ, k3, by rw [← List.append_assoc]; exact k4, by rw [← List.append_assoc]; exact k5⟩
end ScMore
end
