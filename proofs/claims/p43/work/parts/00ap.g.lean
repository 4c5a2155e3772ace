-- P 10gj
section
-- THE CHECKER: calls, and all instructions
def scEndP (X : scX) (ent : Bool) (pc : Nat) (s : scS) (S : List scV) (o : scO) (q : List scI × List scF) (succs : List (Nat × scS)) : Prop := match o.1 with
  | 0 => (pc, ((q.1, s.2.1, S, q.2) : scS)) ∈ succs
  | 1 => (pc, ((q.1 ++ [o.2.1], s.2.1, .inl (some q.1.length, 0) :: S, q.2) : scS)) ∈ succs
  | 2 => (pc, ((q.1, s.2.1, .inr (.inl o.2.1) :: S, q.2) : scS)) ∈ succs
  | 4 => scOut X ent q.1 q.2 4 o.2.1 = true
  | 5 => scOut X ent q.1 q.2 5 o.2.1 = true
  | _ => False
theorem scEndP.more {X : scX} {ent : Bool} {pc : Nat} {s : scS} {S : List scV} {o : scO} {q : List scI × List scF} {a b : List (Nat × scS)} (h : scEndP X ent pc s S o q a) (hm : ∀ x ∈ a, x ∈ b) : scEndP X ent pc s S o q b := by
  unfold scEndP at h ⊢
  split at h
  · exact hm _ h
  · exact hm _ h
  · exact hm _ h
  · exact h
  · exact h
  · exact h
theorem scEnds_ok {X : scX} {ent : Bool} {pc : Nat} {s : scS} {S : List scV} {W : List (Nat × Nat × Nat)} {r : List scI × List scF × scB} {o : scO} {q : List scI × List scF} (hq : scAft W r o = some q) : ∀ {os : List scO} {succs : List (Nat × scS)}, o ∈ os → scEnds X ent pc s S W r os = some succs → scEndP X ent pc s S o q succs
  | o' :: os, succs, hm, h => by
    simp only [scEnds] at h
    rcases List.mem_cons.mp hm with e | hm
    · subst e
      rw [hq] at h
      simp only at h
      unfold scEndP
      split at h
      · rename_i e0
        obtain ⟨l, _, hl⟩ := Option.map_eq_some_iff.mp h
        subst hl
        rw [e0]
        exact List.mem_cons_self
      · rename_i e0
        obtain ⟨l, _, hl⟩ := Option.map_eq_some_iff.mp h
        subst hl
        rw [e0]
        exact List.mem_cons_self
      · rename_i e0
        obtain ⟨l, _, hl⟩ := Option.map_eq_some_iff.mp h
        subst hl
        rw [e0]
        exact List.mem_cons_self
      · rename_i e0
        rw [e0]
        split at h
        · rename_i hx
          exact hx
        · cases h
      · rename_i e0
        rw [e0]
        split at h
        · rename_i hx
          exact hx
        · cases h
      · cases h
    · split at h
      · exact scEnds_ok hq hm h
      · split at h
        · obtain ⟨l, h1, hl⟩ := Option.map_eq_some_iff.mp h
          subst hl
          exact (scEnds_ok hq hm h1).more (fun x hx => List.mem_cons_of_mem _ hx)
        · obtain ⟨l, h1, hl⟩ := Option.map_eq_some_iff.mp h
          subst hl
          exact (scEnds_ok hq hm h1).more (fun x hx => List.mem_cons_of_mem _ hx)
        · obtain ⟨l, h1, hl⟩ := Option.map_eq_some_iff.mp h
          subst hl
          exact (scEnds_ok hq hm h1).more (fun x hx => List.mem_cons_of_mem _ hx)
        · split at h
          · exact scEnds_ok hq hm h
          · cases h
        · split at h
          · exact scEnds_ok hq hm h
          · cases h
        · cases h
theorem scFr.trans {W W' : List (Nat × Nat × Nat)} {M0 M M' : fmM} (h : scFr W M0 M) (h' : scFr W' M M') (hw : W'.all (fun w => scWin W w.1 w.2.1 (w.2.2 - 1) && Nat.blt 0 w.2.2) = true) : scFr W M0 M' := by
  intro k j hn
  have hn' : scIn W' k j = false := by
    cases hb : scIn W' k j with
    | false => rfl
    | true =>
      obtain ⟨w, hw1, hw2⟩ := List.any_eq_true.mp hb
      have hw3 := List.all_eq_true.mp hw w hw1
      simp only [Bool.and_eq_true, beq_iff_eq, Nat.ble_eq, Nat.blt_eq] at hw2 hw3
      rw [hw2.1.1] at hw3
      rw [scWin_in (j := j) hw3.1 hw2.1.2 (by omega)] at hn
      cases hn
  have h1 := h k j hn
  have h2 := h' k j hn'
  exact ⟨h2.1.trans h1.1, h2.2.trans h1.2⟩
theorem scKlW_ok {W : List (Nat × Nat × Nat)} {σ : List Int} {F : List scF} {M M' : fmM} (hF : scFk σ F M) (h : scFr W M M') : scFk σ (scKlW W F) M' := by
  intro f hf
  obtain ⟨hf, hn⟩ := List.mem_filter.mp hf
  have hn' : scIn W f.1.1 f.1.2 = false := by simpa using hn
  rw [(h _ _ hn').1]
  exact hF f hf
theorem scSk_take {σ : List Int} : ∀ (n : Nat) {S : List scV} {st : List Value}, scSk σ S st → scSk σ (S.take n) (st.take n) ∧ scSk σ (S.drop n) (st.drop n)
  | 0, S, st, h => ⟨by simp [scSk], by simpa using h⟩
  | n + 1, [], [], _ => ⟨by simp [scSk], by simp [scSk]⟩
  | n + 1, v :: S, w :: st, h => by
    have := scSk_take n h.2
    exact ⟨⟨h.1, this.1⟩, this.2⟩
  | _ + 1, [], _ :: _, h => h.elim
  | _ + 1, _ :: _, [], h => h.elim
theorem scSk_app {σ : List Int} : ∀ {S : List scV} {st : List Value} {S' : List scV} {st' : List Value}, scSk σ S st → scSk σ S' st' → scSk σ (S ++ S') (st ++ st')
  | [], [], _, _, _, h => h
  | _ :: _, _ :: _, _, _, h, h' => ⟨h.1, scSk_app h.2 h'⟩
  | [], _ :: _, _, _, h, _ => h.elim
  | _ :: _, [], _, _, h, _ => h.elim
theorem scSk_rev {σ : List Int} : ∀ {S : List scV} {st : List Value}, scSk σ S st → scSk σ S.reverse st.reverse
  | [], [], _ => trivial
  | v :: S, w :: st, h => by
    rw [List.reverse_cons, List.reverse_cons]
    exact scSk_app (scSk_rev h.2) ⟨h.1, trivial⟩
  | [], _ :: _, h => h.elim
  | _ :: _, [], h => h.elim
theorem scSk_len {σ : List Int} : ∀ {S : List scV} {st : List Value}, scSk σ S st → S.length = st.length
  | [], [], _ => rfl
  | _ :: _, _ :: _, h => by simp [scSk_len h.2]
  | [], _ :: _, h => h.elim
  | _ :: _, [], h => h.elim
section ScCall
variable {X : scX} {M0 : fmM} {ρ0 σ : List Int} {s : scS} {L : List (Option Value)} {st : List Value} {M : fmM} {pc : Nat} {succs : List (Nat × scS)} {ent : Bool}
theorem scCall_one {q : scCl} {idx kind : Nat} {r : List scI × List scF × scB} (hX : scXk X) (hρ : ρ0.length = X.2.2.2.2.2.2.1.length) (he : ent = true → ∃ τ, σ = ρ0 ++ τ) (hs : scHold X M0 s σ L st M) (hd : decode X.2.2.2.2.1.2.1 pc = .ok (if kind = 1 then .invokestatic idx else .invokevirtual idx, 3)) (hq : q ∈ X.2.2.2.1) (hi : q.1 = idx) (hk : q.2.1 = kind) (hk2 : kind = 0 ∨ kind = 1) (ht : scTry X s q = some r) (h : scEnds X ent (pc + 3) s (s.2.2.1.drop q.2.2.2.2.2.2.1.length) q.2.2.2.2.2.2.2.2.2 r q.2.2.2.2.2.2.2.2.1 = some succs) (kk : ∀ q ∈ succs, scGoes X M0 ρ0 σ q) : scGoal X M0 ρ0 pc L st M := by
  obtain ⟨g1, g2, g3, g4, g5, g6⟩ := id hs
  have hcq := hX.2 q hq
  unfold scTry at ht
  split at ht
  · rename_i hb
    simp only [Bool.and_eq_true, Nat.ble_eq] at hb
    obtain ⟨⟨⟨⟨b1, b2⟩, b3⟩, b4⟩, b5⟩ := hb
    generalize hm : q.2.2.2.2.2.2.1.length = m at *
    obtain ⟨t1, t2⟩ := scSk_take m g3
    have t3 : scSk σ (scArgs s.2.2.1 m) (st.take m).reverse := scSk_rev t1
    obtain ⟨env, F, B⟩ := r
    obtain ⟨τ, i1, i2, i3, i4, i5, i6, i7⟩ := scInc_ok (s := (s.1, [], scArgs s.2.2.1 m, s.2.2.2)) (L := []) g1 scLk.nil t3 g4 g5 ht
    have hH : scH X.1 X.2.1 q.2.2.2 := by
      unfold scClk at hcq
      rw [hk] at hcq
      rcases hk2 with e | e <;> subst e <;> exact hcq.2
    have hG := hH M _ _ i4 i6 i7 g5
    have hB := scBk.of i3
    have after : pvGood X.1 q.2.2.2.2.1 q.2.2.2.1 (st.take m).reverse M (pvThen X.1 X.2.2.2.2.2.1 X.2.2.2.2.1 (pc + 3) L (st.drop m) (scEnd X.1 X.2.1 X.2.2.2.2 ρ0 M0)) := by
      refine hG.imp (fun o M' hE => ?_)
      obtain ⟨⟨o', ho, hr, hrf, hme⟩, hI', hF'⟩ := hE
      obtain ⟨env1, k1, k2⟩ := scCutR_ok hB (qs := o'.2.2.2.1) i1 hrf
      obtain ⟨p, τ2, k3, k4, k5⟩ := scMem_ok (qs := o'.2.2.2.2) k2 (scKlW_ok i2 hF') hme
      have hp : scAft q.2.2.2.2.2.2.2.2.2 (env, F, B) o' = some p := by
        simp only [scAft, k1, Option.bind_some]
        exact k3
      have hP := scEnds_ok (X := X) (ent := ent) (pc := pc + 3) (s := s) (S := s.2.2.1.drop m) hp ho h
      have hFr := g6.trans hF' b4
      unfold scEndP at hP
      unfold scRk at hr
      rw [List.append_assoc] at k4 k5
      split at hP
      · rename_i e0
        rw [e0] at hr
        simp only at hr
        subst hr
        exact kk _ hP (τ ++ τ2) L (st.drop m) M' ⟨k4, g2.mono, t2.mono, k5, hI', hFr⟩
      · rename_i e0
        rw [e0] at hr
        obtain ⟨n, en, n1, n2⟩ := hr
        subst en
        refine kk _ hP (τ ++ τ2 ++ [n.toInt]) L (.int n :: st.drop m) M' ?_
        have := k4.push n1 n2
        rw [← List.append_assoc]
        exact ⟨this, g2.mono.mono, ⟨⟨n, rfl, scEv.new k4⟩, t2.mono.mono⟩, k5.mono, hI', hFr⟩
      · rename_i e0
        rw [e0] at hr
        obtain ⟨n, en, n1, n2⟩ := hr
        subst en
        exact kk _ hP (τ ++ τ2) L (.long n :: st.drop m) M' ⟨k4, g2.mono, ⟨⟨n, rfl, n1, n2⟩, t2.mono⟩, k5, hI', hFr⟩
      · rename_i e0
        rw [e0] at hr
        simp only at hr
        subst hr
        refine scOut_ok (σ := σ ++ (τ ++ τ2)) hρ (fun h => ?_) k4 k5 hI' hFr hP (fun o2 h1 _ => ?_)
        · obtain ⟨τ3, e3⟩ := he h
          exact ⟨τ3 ++ (τ ++ τ2), by rw [e3, List.append_assoc]⟩
        · unfold scRk
          rw [h1]
          exact (rfl : (Sum.inr fmIAE : fmR) = Sum.inr fmIAE)
      · rename_i e0
        rw [e0] at hr
        simp only at hr
        subst hr
        refine scOut_ok (σ := σ ++ (τ ++ τ2)) hρ (fun h => ?_) k4 k5 hI' hFr hP (fun o2 h1 _ => ?_)
        · obtain ⟨τ3, e3⟩ := he h
          exact ⟨τ3 ++ (τ ++ τ2), by rw [e3, List.append_assoc]⟩
        · unfold scRk
          rw [h1]
          exact (rfl : (Sum.inr fmNSE : fmR) = Sum.inr fmNSE)
      · exact hP.elim
    have hcat : pvCat (st.drop m) ≤ 8 := by unfold pvCat; rw [scSk_cat t2]; exact b3
    have hlen : m ≤ st.length := by rw [← scSk_len g3]; exact b1
    have hstk : st = (st.take m).reverse.reverse ++ st.drop m := by rw [List.reverse_reverse, List.take_append_drop]
    have hal : (st.take m).reverse.length = m := by simp [hlen]
    subst hi
    rcases hk2 with e | e
    · subst e
      unfold scClk at hcq
      rw [hk] at hcq b5
      simp only [Nat.zero_ne_one, if_false] at hd
      obtain ⟨⟨n, i0, hc1, hc2⟩, -⟩ := hcq
      have hmn : m = n + 1 := by rw [← hm]; exact hc2
      simp only [scRecv] at b5
      cases hA : (st.take m).reverse with
      | nil => rw [hA] at hal; simp at hal; omega
      | cons w As =>
        rw [hA] at t3 after hstk hal
        split at b5
        · rename_i ks tl hS
          rw [hS] at t3
          obtain ⟨k, st', hk', e1, q1⟩ := scSk_r t3
          injection e1 with e1 e2
          subst e1
          subst e2
          have b6 := List.all_eq_true.mp b5 k hk'
          simp only [Bool.and_eq_true, Nat.blt_eq, Nat.beq_eq] at b6
          refine pv_invV (As := As) hc1 b6.1 b6.2 (by simp at hal; omega) rfl (hstk.trans (by simp)) hcat b2 hd after
        · cases b5
    · subst e
      unfold scClk at hcq
      rw [hk] at hcq
      simp only [if_true] at hd
      obtain ⟨⟨hm1, hm2, hm3, i0, ci, hc1⟩, -⟩ := hcq
      rw [hm] at hc1
      exact pv_invS hm1 hm2 hm3 hc1 hal hstk hcat b2 hd after
  · cases ht
theorem scCall_ok {idx kind : Nat} (hX : scXk X) (hρ : ρ0.length = X.2.2.2.2.2.2.1.length) (he : ent = true → ∃ τ, σ = ρ0 ++ τ) (hs : scHold X M0 s σ L st M) (hd : decode X.2.2.2.2.1.2.1 pc = .ok (if kind = 1 then .invokestatic idx else .invokevirtual idx, 3)) (hk2 : kind = 0 ∨ kind = 1) (kk : ∀ q ∈ succs, scGoes X M0 ρ0 σ q) : ∀ {qs : List scCl}, (∀ q ∈ qs, q ∈ X.2.2.2.1) → scCall X ent (pc + 3) s idx kind qs = some succs → scGoal X M0 ρ0 pc L st M
  | [], _, h => by cases h
  | q :: qs, hq, h => by
    simp only [scCall] at h
    split at h
    · rename_i hb
      simp only [Bool.and_eq_true, Nat.beq_eq] at hb
      split at h
      · rename_i r hr
        exact scCall_one hX hρ he hs hd (hq q List.mem_cons_self) hb.1 hb.2 hk2 hr h kk
      · exact scCall_ok hX hρ he hs hd hk2 kk (fun q' hq' => hq q' (List.mem_cons_of_mem _ hq')) h
    · exact scCall_ok hX hρ he hs hd hk2 kk (fun q' hq' => hq q' (List.mem_cons_of_mem _ hq')) h
end ScCall
end
