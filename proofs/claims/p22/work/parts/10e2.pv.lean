-- THE PURE MACHINE IS SOUND
def pvTr (G : fmG) (v : Value) : Value := match v with
  | .ref k => .ref (if k < 1000 then G.1 k else G.2.2.2.1 (k - 1000))
  | v => v
def pvTs (G : fmG) (st : List Value) : List Value := st.map (pvTr G)
def pvTl (G : fmG) (L : List (Option Value)) : List (Option Value) := L.map (Option.map (pvTr G))
def pvTo (G : fmG) (o : fmR) : fmR := match o with
  | .inl v => .inl (v.map (pvTr G))
  | .inr E => .inr E
section PvTr
variable {G : fmG}
theorem pvTr_c {k : Nat} (h : k < 1000) : pvTr G (.ref k) = .ref (G.1 k) := by simp [pvTr, h]
theorem pvTr_t (i : Nat) : pvTr G (.ref (1000 + i)) = .ref (G.2.2.2.1 i) := by
  have h : ¬ 1000 + i < 1000 := by omega
  simp only [pvTr, if_neg h, Nat.add_sub_cancel_left]
theorem pvTr_t' {k : Nat} (h : 1000 ≤ k) : pvTr G (.ref k) = .ref (G.2.2.2.1 (k - 1000)) := by simp [pvTr, Nat.not_lt.mpr h]
theorem pvTr_cat (v : Value) : (pvTr G v).category = v.category := by cases v <;> rfl
theorem pvTl_at {L : List (Option Value)} {i : Nat} {v : Value} (h : L.getD i none = some v) : (pvTl G L)[i]? = some (some (pvTr G v)) := by
  simp only [List.getD] at h
  cases hL : L[i]? with
  | none => rw [hL] at h; simp at h
  | some q =>
    rw [hL] at h
    simp at h
    subst h
    simp [pvTl, hL]
theorem pvTl_set {L : List (Option Value)} {i : Nat} {w : Option Value} : pvTl G (L.set i w) = (pvTl G L).set i (w.map (pvTr G)) := by
  simp [pvTl, List.map_set]
theorem pvTl_no2 {L : List (Option Value)} {i : Nat} : fmNo2 (pvTl G L) i = fmNo2 L i := by
  cases i with
  | zero => rfl
  | succ j =>
    simp only [fmNo2, pvTl, List.getElem?_map]
    cases L[j]? with
    | none => rfl
    | some q =>
      cases q with
      | none => rfl
      | some v => simp [pvTr_cat]
theorem pvTs_cat {st : List Value} : ((pvTs G st).map fun v => v.category).sum = pvCat st := by
  simp only [pvTs, pvCat, List.map_map]
  congr 1
  apply List.map_congr_left
  intro v _
  exact pvTr_cat v
theorem pvTs_args : ∀ {args : List Value}, fmArgs (pvTs G args) = pvTl G (fmArgs args)
  | [] => rfl
  | v :: vs => by
    show fmArgs (pvTr G v :: pvTs G vs) = _
    simp only [fmArgs, pvTr_cat]
    rw [pvTs_args (args := vs)]
    split <;> rfl
theorem pvTs_sl : ∀ {args : List Value}, (lg_sl (pvTs G args)).length = (lg_sl args).length
  | [] => rfl
  | v :: vs => by
    have ih := pvTs_sl (args := vs)
    simp only [lg_sl, pvTs, List.map_cons, List.flatMap_cons, List.length_append, pvTr_cat] at ih ⊢
    rw [ih]
    split <;> rfl
theorem pvEnt_tr {y : fmY} {args : List Value} : fmArgs (pvTs G args) ++ List.replicate (y.2.2.1 - (fmArgs (pvTs G args)).length) none = pvTl G (pvEnt y args) := by
  rw [pvTs_args]
  simp [pvEnt, pvTl]
end PvTr
/-- what a step's end means over the machine -/
def pvSt (T : fmT) (l : Launch) (G : fmG) (d : Nat) (y : fmY) (pc : Nat) (L : List (Option Value)) (st : List Value) (M : fmM) (r : pvO) : Prop := match r with
  | .inl q => ∀ Q : fmR → fmM → Prop, fmEv T l G d y q.1 (pvTl G q.2.1) (pvTs G q.2.2.1) q.2.2.2 Q → fmEv T l G d y pc (pvTl G L) (pvTs G st) M Q
  | .inr (.inl q) => ∀ Q : fmR → fmM → Prop, Q (pvTo G q.1) q.2 → fmEv T l G d y pc (pvTl G L) (pvTs G st) M Q
  | .inr (.inr q) => plainName q.1.1.cls = true ∧ ∀ (Q : fmR → fmM → Prop) (d' : Nat), d' + 1 ≤ d → fmGood T l G d' q.1 (pvTs G q.2.1) M (fmThen T l G d y q.2.2.1 (pvTl G L) (pvTs G q.2.2.2) Q) → fmEv T l G d y pc (pvTl G L) (pvTs G st) M Q
section PvSound
variable {T : fmT} {l : Launch} {G : fmG} {d : Nat} {y : fmY} {pc pc' : Nat} {L : List (Option Value)} {st : List Value} {M : fmM} {r : pvO}
theorem pvI1_ok {f : Int32 → Int32} (row : ∀ (x : Int32) (st : List Value) (Q : fmR → fmM → Prop), fmEv T l G d y pc' (pvTl G L) (.int (f x) :: st) M Q → fmEv T l G d y pc (pvTl G L) (.int x :: st) M Q) (h : pvI1 f pc' L st M = some r) : pvSt T l G d y pc L st M r := by
  unfold pvI1 at h
  split at h
  · cases h
    exact fun Q k => row _ _ Q k
  · cases h
theorem pvI2_ok {f : Int32 → Int32 → Int32} (row : ∀ (x z : Int32) (st : List Value) (Q : fmR → fmM → Prop), fmEv T l G d y pc' (pvTl G L) (.int (f x z) :: st) M Q → fmEv T l G d y pc (pvTl G L) (.int z :: .int x :: st) M Q) (h : pvI2 f pc' L st M = some r) : pvSt T l G d y pc L st M r := by
  unfold pvI2 at h
  split at h
  · cases h
    exact fun Q k => row _ _ _ Q k
  · cases h
theorem pvJ2_ok {f : Int64 → Int64 → Int64} (row : ∀ (x z : Int64) (st : List Value) (Q : fmR → fmM → Prop), fmEv T l G d y pc' (pvTl G L) (.long (f x z) :: st) M Q → fmEv T l G d y pc (pvTl G L) (.long z :: .long x :: st) M Q) (h : pvJ2 f pc' L st M = some r) : pvSt T l G d y pc L st M r := by
  unfold pvJ2 at h
  split at h
  · cases h
    exact fun Q k => row _ _ _ Q k
  · cases h
theorem pvJI_ok {f : Int64 → Int32 → Int64} (row : ∀ (x : Int64) (z : Int32) (st : List Value) (Q : fmR → fmM → Prop), fmEv T l G d y pc' (pvTl G L) (.long (f x z) :: st) M Q → fmEv T l G d y pc (pvTl G L) (.int z :: .long x :: st) M Q) (h : pvJI f pc' L st M = some r) : pvSt T l G d y pc L st M r := by
  unfold pvJI at h
  split at h
  · cases h
    exact fun Q k => row _ _ _ Q k
  · cases h
theorem pvLoad_ok {i t : Nat} (rI : t = 0 → ∀ (x : Int32) (Q : fmR → fmM → Prop), (pvTl G L)[i]? = some (some (.int x)) → fmEv T l G d y pc' (pvTl G L) (.int x :: pvTs G st) M Q → fmEv T l G d y pc (pvTl G L) (pvTs G st) M Q) (rJ : t = 1 → ∀ (x : Int64) (Q : fmR → fmM → Prop), (pvTl G L)[i]? = some (some (.long x)) → fmEv T l G d y pc' (pvTl G L) (.long x :: pvTs G st) M Q → fmEv T l G d y pc (pvTl G L) (pvTs G st) M Q) (rR : t = 2 → ∀ (x : Nat) (Q : fmR → fmM → Prop), (pvTl G L)[i]? = some (some (.ref x)) → fmEv T l G d y pc' (pvTl G L) (.ref x :: pvTs G st) M Q → fmEv T l G d y pc (pvTl G L) (pvTs G st) M Q) (h : pvLoad pc' i t L st M = some r) : pvSt T l G d y pc L st M r := by
  unfold pvLoad at h
  split at h
  · rename_i x e
    split at h
    · rename_i ht
      cases h
      exact fun Q k => rI (by simpa using ht) x Q (pvTl_at e) k
    · cases h
  · rename_i x e
    split at h
    · rename_i ht
      cases h
      exact fun Q k => rJ (by simpa using ht) x Q (pvTl_at e) k
    · cases h
  · rename_i x e
    split at h
    · rename_i ht
      cases h
      exact fun Q k => rR (by simpa using ht) _ Q (pvTl_at e) k
    · cases h
  · cases h
theorem pvKill_no {i : Nat} : fmNo2 (pvKill L i) i = true := by
  cases i with
  | zero => rfl
  | succ j =>
    simp only [pvKill]
    split
    · assumption
    · simp only [fmNo2, List.getElem?_set]
      simp only [if_true]
      split
      · rename_i v h
        split at h <;> cases h
      · rfl
theorem pvKill_eq {i : Nat} (h : fmNo2 L i = true) : pvKill L i = L := by
  cases i with
  | zero => rfl
  | succ j => simp only [pvKill, h, if_true]
theorem pvKill_less {i j : Nat} {v : Value} (h : (pvTl G (pvKill L i))[j]? = some (some v)) : (pvTl G L)[j]? = some (some v) := by
  cases i with
  | zero => exact h
  | succ i =>
    simp only [pvKill] at h
    split at h
    · exact h
    · rw [pvTl_set, List.getElem?_set] at h
      split at h
      · split at h <;> cases h
      · exact h
theorem pvStor_ok {n i t : Nat} (rI : t = 0 → i < n → ∀ (x : Int32) (Q : fmR → fmM → Prop) (st : List Value) (L' : List (Option Value)), fmNo2 L' i = true → fmEv T l G d y pc' (L'.set i (some (.int x))) st M Q → fmEv T l G d y pc L' (.int x :: st) M Q) (rJ : t = 1 → i + 1 < n → ∀ (x : Int64) (Q : fmR → fmM → Prop) (st : List Value) (L' : List (Option Value)), fmNo2 L' i = true → fmEv T l G d y pc' ((L'.set i (some (.long x))).set (i + 1) none) st M Q → fmEv T l G d y pc L' (.long x :: st) M Q) (rR : t = 2 → i < n → ∀ (x : Nat) (Q : fmR → fmM → Prop) (st : List Value) (L' : List (Option Value)), fmNo2 L' i = true → fmEv T l G d y pc' (L'.set i (some (.ref x))) st M Q → fmEv T l G d y pc L' (.ref x :: st) M Q) (h : pvStor n pc' i t L st M = some r) : pvSt T l G d y pc L st M r := by
  unfold pvStor at h
  split at h
  · split at h
    · rename_i ht
      simp only [Bool.and_eq_true, Nat.beq_eq, Nat.blt_eq] at ht
      cases h
      intro Q k
      refine fm_less (fun _ _ h => pvKill_less h) (rI ht.1 ht.2 _ Q _ (pvTl G (pvKill L i)) (by rw [pvTl_no2]; exact pvKill_no) ?_)
      have k' := k
      rw [pvTl_set] at k'
      exact k'
    · cases h
  · split at h
    · rename_i ht
      simp only [Bool.and_eq_true, Nat.beq_eq, Nat.blt_eq] at ht
      cases h
      intro Q k
      refine fm_less (fun _ _ h => pvKill_less h) (rJ ht.1 ht.2 _ Q _ (pvTl G (pvKill L i)) (by rw [pvTl_no2]; exact pvKill_no) ?_)
      have k' := k
      rw [pvTl_set, pvTl_set] at k'
      exact k'
    · cases h
  · split at h
    · rename_i ht
      simp only [Bool.and_eq_true, Nat.beq_eq, Nat.blt_eq] at ht
      cases h
      intro Q k
      refine fm_less (fun _ _ h => pvKill_less h) (rR ht.1 ht.2 _ Q _ (pvTl G (pvKill L i)) (by rw [pvTl_no2]; exact pvKill_no) ?_)
      have k' := k
      rw [pvTl_set] at k'
      exact k'
    · cases h
  · cases h
theorem pvFd_ok {own : String} {idx : Nat} {f : scFd} (h : pvFd own idx = some f) : fmFl own idx f.2.1 f.2.2.1 ∧ scFdk own f := by
  have h1 := (pvT_ok own).1.1.1 f (List.mem_of_find?_eq_some h)
  have h2 := List.find?_some h
  simp only [Nat.beq_eq] at h2
  have h3 := h1.1
  rw [h2] at h3
  exact ⟨h3, h1⟩
theorem pvOb_ok {k : Nat} {f : scFd} (h : pvOb T k f = true) : k < T.1 ∧ T.2.1 k = f.2.1 + 6 ∧ f.2.2.1 < T.2.2.1 k := by
  simp only [pvOb, Bool.and_eq_true, Nat.blt_eq, Nat.beq_eq] at h
  exact ⟨h.1.1, h.1.2, h.2⟩
theorem pvGet_ok {idx : Nat} (hT : T.1 ≤ 1000) (hd : decode y.2.1 pc = .ok (.getfield idx, 3)) (h : pvGet T y.1.cls (pc + 3) idx L st M = some r) : pvSt T l G d y pc L st M r := by
  unfold pvGet at h
  split at h
  · rename_i k st'
    split at h
    · rename_i f hf
      obtain ⟨f1, -, f2, f3, f4, f5⟩ := pvFd_ok hf
      split at h
      · rename_i hc
        obtain ⟨c1, c2, c3⟩ := pvOb_ok hc
        have ek : pvTs G (.ref k :: st') = .ref (G.1 k) :: pvTs G st' := by
          show pvTr G (.ref k) :: pvTs G st' = _
          rw [pvTr_c (by omega)]
        split at h
        · rename_i ht
          cases h
          intro Q kk
          rw [ek]
          exact fm_getI f1 c1 c2 c3 (f2 ht) hd kk
        · rename_i ht
          cases h
          intro Q kk
          rw [ek]
          exact fm_getJ f1 c1 c2 c3 (f3 ht) hd kk
        · rename_i ht
          split at h
          · rename_i hb
            cases h
            intro Q kk
            rw [ek]
            refine fm_getR _ rfl f1 c1 c2 c3 (f4 ht) hd ?_
            have kk' := kk
            rw [show pvTs G (.ref (T.2.2.2 k f.2.2.1) :: st') = .ref (G.1 (T.2.2.2 k f.2.2.1)) :: pvTs G st' by
              show pvTr G (.ref _) :: pvTs G st' = _
              rw [pvTr_c (by simpa using hb)]] at kk'
            exact kk'
          · cases h
        · cases h
      · cases h
    · cases h
  · cases h
theorem pvPut_ok {idx : Nat} (hT : T.1 ≤ 1000) (hd : decode y.2.1 pc = .ok (.putfield idx, 3)) (h : pvPut T y.1.cls (pc + 3) idx L st M = some r) : pvSt T l G d y pc L st M r := by
  unfold pvPut at h
  split at h
  · rename_i v k st'
    split at h
    · rename_i f hf
      obtain ⟨f1, -, f2, f3, f4, f5⟩ := pvFd_ok hf
      split at h
      · rename_i hc
        rw [Bool.and_eq_true] at hc
        obtain ⟨c1, c2, c3⟩ := pvOb_ok hc.1
        have ek : ∀ w : Value, pvTs G (w :: .ref k :: st') = pvTr G w :: .ref (G.1 k) :: pvTs G st' := by
          intro w
          show pvTr G w :: pvTr G (.ref k) :: pvTs G st' = _
          rw [pvTr_c (by omega)]
        split at h
        · rename_i ht
          cases h
          intro Q kk
          rw [ek]
          exact fm_putI f1 c1 c2 c3 (f5 hc.2) (f2 ht) hd kk
        · rename_i ht
          cases h
          intro Q kk
          rw [ek]
          exact fm_putJ f1 c1 c2 c3 (f5 hc.2) (f3 ht) hd kk
        · cases h
      · cases h
    · cases h
  · cases h
theorem pvIx_ok {k kd : Nat} {i : Int32} (h : pvIx T k kd i = true) : k < T.1 ∧ T.2.1 k = kd ∧ vp_in i (T.2.2.1 k) := by
  simp only [pvIx, Bool.and_eq_true, Nat.blt_eq, Nat.beq_eq, decide_eq_true_eq] at h
  exact ⟨h.1.1.1, h.1.1.2, vp_in_iff.mpr ⟨h.1.2, h.2⟩⟩
theorem pvTs_ik {k : Nat} {i : Int32} {st' : List Value} (hT : T.1 ≤ 1000) (h : k < T.1) : pvTs G (.int i :: .ref k :: st') = .int i :: .ref (G.1 k) :: pvTs G st' := by
  show .int i :: pvTr G (.ref k) :: pvTs G st' = _
  rw [pvTr_c (by omega)]
theorem pvTs_vik {k : Nat} {i : Int32} {v : Value} {st' : List Value} (hT : T.1 ≤ 1000) (h : k < T.1) : pvTs G (v :: .int i :: .ref k :: st') = pvTr G v :: .int i :: .ref (G.1 k) :: pvTs G st' := by
  show pvTr G v :: .int i :: pvTr G (.ref k) :: pvTs G st' = _
  rw [pvTr_c (by omega)]
theorem pvAldI_ok (hT : T.1 ≤ 1000) (hd : decode y.2.1 pc = .ok (.iaload, 1)) (h : pvAld T 0 (pc + 1) L st M = some r) : pvSt T l G d y pc L st M r := by
  unfold pvAld at h
  split at h
  · split at h
    · rename_i hi
      obtain ⟨i1, i2, i3⟩ := pvIx_ok hi
      cases h
      intro Q k
      rw [pvTs_ik hT i1]
      exact fm_iald i1 i2 rfl i3 hd k
    · cases h
  · cases h
theorem pvAldJ_ok (hT : T.1 ≤ 1000) (hd : decode y.2.1 pc = .ok (.laload, 1)) (h : pvAld T 1 (pc + 1) L st M = some r) : pvSt T l G d y pc L st M r := by
  unfold pvAld at h
  split at h
  · split at h
    · rename_i hi
      obtain ⟨i1, i2, i3⟩ := pvIx_ok hi
      cases h
      intro Q k
      rw [pvTs_ik hT i1]
      exact fm_lald i1 i2 rfl i3 hd k
    · cases h
  · cases h
theorem pvAldB_ok (hT : T.1 ≤ 1000) (hd : decode y.2.1 pc = .ok (.baload, 1)) (h : pvAld T 2 (pc + 1) L st M = some r) : pvSt T l G d y pc L st M r := by
  unfold pvAld at h
  split at h
  · split at h
    · rename_i hi
      obtain ⟨i1, i2, i3⟩ := pvIx_ok hi
      cases h
      intro Q k
      rw [pvTs_ik hT i1]
      exact fm_bald i1 i2 rfl i3 hd k
    · cases h
  · cases h
theorem pvAstI_ok (hT : T.1 ≤ 1000) (hd : decode y.2.1 pc = .ok (.iastore, 1)) (h : pvAst T 0 (pc + 1) L st M = some r) : pvSt T l G d y pc L st M r := by
  unfold pvAst at h
  split at h
  · split at h
    · rename_i hi
      obtain ⟨i1, i2, i3⟩ := pvIx_ok hi
      split at h
      · cases h
        intro Q k
        rw [pvTs_vik hT i1]
        exact fm_iast i1 i2 rfl i3 hd k
      · omega
      · omega
      · cases h
    · cases h
  · cases h
theorem pvAstJ_ok (hT : T.1 ≤ 1000) (hd : decode y.2.1 pc = .ok (.lastore, 1)) (h : pvAst T 1 (pc + 1) L st M = some r) : pvSt T l G d y pc L st M r := by
  unfold pvAst at h
  split at h
  · split at h
    · rename_i hi
      obtain ⟨i1, i2, i3⟩ := pvIx_ok hi
      split at h
      · omega
      · cases h
        intro Q k
        rw [pvTs_vik hT i1]
        exact fm_last i1 i2 rfl i3 hd k
      · omega
      · cases h
    · cases h
  · cases h
theorem pvAstB_ok (hT : T.1 ≤ 1000) (hd : decode y.2.1 pc = .ok (.bastore, 1)) (h : pvAst T 2 (pc + 1) L st M = some r) : pvSt T l G d y pc L st M r := by
  unfold pvAst at h
  split at h
  · split at h
    · rename_i hi
      obtain ⟨i1, i2, i3⟩ := pvIx_ok hi
      split at h
      · omega
      · omega
      · cases h
        intro Q k
        rw [pvTs_vik hT i1]
        exact fm_bast i1 i2 rfl i3 hd k
      · cases h
    · cases h
  · cases h
theorem pvAald_ok (hT : T.1 ≤ 1000) (hd : decode y.2.1 pc = .ok (.aaload, 1)) (h : pvAald T (pc + 1) L st M = some r) : pvSt T l G d y pc L st M r := by
  unfold pvAald at h
  split at h
  · rename_i i k st'
    split at h
    · rename_i hi
      rw [Bool.and_eq_true, Bool.or_eq_true, Bool.or_eq_true] at hi
      obtain ⟨hi, hb⟩ := hi
      have hty : ∃ ty : FieldType, k < T.1 ∧ vp_in i (T.2.2.1 k) ∧ ((T.2.1 k = 3 ∧ ty = .object "LifeDrawer$Shelf") ∨ (T.2.1 k = 4 ∧ ty = .object "LifeDrawer$State") ∨ (T.2.1 k = 5 ∧ ty = .array .int)) := by
        rcases hi with (h | h) | h
        · obtain ⟨i1, i2, i3⟩ := pvIx_ok h
          exact ⟨_, i1, i3, Or.inl ⟨i2, rfl⟩⟩
        · obtain ⟨i1, i2, i3⟩ := pvIx_ok h
          exact ⟨_, i1, i3, Or.inr (Or.inl ⟨i2, rfl⟩)⟩
        · obtain ⟨i1, i2, i3⟩ := pvIx_ok h
          exact ⟨_, i1, i3, Or.inr (Or.inr ⟨i2, rfl⟩)⟩
      obtain ⟨ty, i1, i3, hty⟩ := hty
      cases h
      intro Q kk
      rw [pvTs_ik hT i1]
      refine fm_aald i1 rfl hty rfl i3 rfl hd ?_
      have kk' := kk
      rw [show pvTs G (.ref (T.2.2.2 k i.toNatClampNeg) :: st') = .ref (G.1 (T.2.2.2 k i.toNatClampNeg)) :: pvTs G st' by
        show pvTr G (.ref _) :: pvTs G st' = _
        rw [pvTr_c (by simpa using hb)]] at kk'
      exact kk'
    · cases h
  · cases h
theorem pvAlen_ok (hT : T.1 ≤ 1000) (hd : decode y.2.1 pc = .ok (.arraylength, 1)) (h : pvAlen T (pc + 1) L st M = some r) : pvSt T l G d y pc L st M r := by
  unfold pvAlen at h
  split at h
  · rename_i k st'
    split at h
    · rename_i hi
      simp only [Bool.and_eq_true, Bool.or_eq_true, Nat.blt_eq, Nat.beq_eq] at hi
      cases h
      intro Q kk
      have ek : pvTs G (.ref k :: st') = .ref (G.1 k) :: pvTs G st' := by
        show pvTr G (.ref k) :: pvTs G st' = _
        rw [pvTr_c (by omega)]
      rw [ek]
      rcases hi.2 with e | e
      · exact fm_alenI hi.1 e rfl rfl hd kk
      · exact fm_alenJ hi.1 e rfl rfl hd kk
    · cases h
  · cases h
theorem pvKc_ok {own : String} {idx : Nat} {v : Int32 ⊕ Int64} {i : Nat} (h : pvKc own idx = some (i, v)) : scKc own (idx, v) := by
  have h1 := (pvT_ok own).1.1.2.1 _ (List.mem_of_find?_eq_some h)
  have h2 := List.find?_some h
  simp only [Nat.beq_eq] at h2
  rw [h2] at h1
  exact h1
theorem pvLdc_ok {idx : Nat} (hd : decode y.2.1 pc = .ok (.ldc idx, 2)) (h : pvLdc y.1.cls (pc + 2) idx L st M = some r) : pvSt T l G d y pc L st M r := by
  unfold pvLdc at h
  split at h
  · rename_i i v hf
    cases h
    exact fun Q k => fm_ldc (pvKc_ok hf) hd k
  · cases h
  · split at h
    · rename_i q hf
      cases h
      obtain ⟨h5, tx, hR⟩ := (pvT_ok y.1.cls).1.2 q (List.mem_of_find?_eq_some hf) G
      have h2 := List.find?_some hf
      simp only [Nat.beq_eq] at h2
      rw [h2] at hR
      intro Q k
      refine fm_ldcT hR hd ?_
      have k' := k
      rw [show pvTs G (.ref (1000 + q.2) :: st) = .ref (G.2.2.2.1 q.2) :: pvTs G st by
        show pvTr G (.ref _) :: pvTs G st = _
        rw [pvTr_t]] at k'
      exact k'
    · cases h
theorem pvLdcw_ok {idx : Nat} (hd : decode y.2.1 pc = .ok (.ldc_w idx, 3)) (h : pvLdcw y.1.cls (pc + 3) idx L st M = some r) : pvSt T l G d y pc L st M r := by
  unfold pvLdcw at h
  split at h
  · rename_i i v hf
    cases h
    exact fun Q k => fm_ldcw (pvKc_ok hf) hd k
  · cases h
theorem pvLdc2_ok {idx : Nat} (hd : decode y.2.1 pc = .ok (.ldc2_w idx, 3)) (h : pvLdc2 y.1.cls (pc + 3) idx L st M = some r) : pvSt T l G d y pc L st M r := by
  unfold pvLdc2 at h
  split at h
  · rename_i i v hf
    cases h
    exact fun Q k => fm_ldc2 (pvKc_ok hf) hd k
  · cases h
theorem pvCopy_ok {idx : Nat} (hT : T.1 ≤ 1000) (hc : pvCp y.1.cls idx = true) (hd : decode y.2.1 pc = .ok (.invokestatic idx, 3)) (h : pvCopy T (pc + 3) L st M = some r) : pvSt T l G d y pc L st M r := by
  obtain ⟨q, hq, e⟩ := List.any_eq_true.mp hc
  simp only [Nat.beq_eq] at e
  subst e
  have hl := (pvT_ok y.1.cls).1.1.2.2.1 q hq
  unfold pvCopy at h
  split at h
  · rename_i n dp k1 sp k0 st'
    split at h
    · rename_i hb
      simp only [Bool.and_eq_true, Nat.blt_eq, Nat.beq_eq, Nat.ble_eq, decide_eq_true_eq] at hb
      obtain ⟨⟨⟨⟨⟨⟨⟨⟨⟨b1, b2⟩, b3⟩, b4⟩, b5⟩, b6⟩, b7⟩, b8⟩, b9⟩, b10⟩ := hb
      cases h
      intro Q k
      have ek : pvTs G (.int n :: .int dp :: .ref k1 :: .int sp :: .ref k0 :: st') = .int n :: .int dp :: .ref (G.1 k1) :: .int sp :: .ref (G.1 k0) :: pvTs G st' := by
        show .int n :: .int dp :: pvTr G (.ref k1) :: .int sp :: pvTr G (.ref k0) :: pvTs G st' = _
        rw [pvTr_c (by omega), pvTr_c (by omega)]
      rw [ek]
      have z0 : (0 : Int32).toInt = 0 := by decide
      exact fm_copy hl na_copy b1 b2 rfl b3 b4 rfl (by rw [sc_lt]; omega) (by rw [sc_lt]; omega) (by rw [sc_lt]; omega) b8 b9 (by rw [pvTs_cat]; exact b10) hd k
    · cases h
  · cases h
theorem pvCq_ok {own : String} {idx : Nat} {q : pvCl} (h : pvCq own idx = some q) : pvCk own q ∧ q.1 = idx := by
  have h1 := (pvT_ok own).2.1 q (List.mem_of_find?_eq_some h)
  have h2 := List.find?_some h
  simp only [Nat.beq_eq] at h2
  exact ⟨h1, h2⟩
theorem pvCal_ok {idx : Nat} {stat : Bool} {q : pvCl} (hst : l.stackTraces = false) (hT : T.1 ≤ 1000) (hq : pvCq y.1.cls idx = some q) (hd : decode y.2.1 pc = .ok (if stat then .invokestatic idx else .invokevirtual idx, 3)) (h : pvCal T d (pc + 3) L st M stat q = some r) : pvSt T l G d y pc L st M r := by
  obtain ⟨hk, hi⟩ := pvCq_ok hq
  obtain ⟨q1, kd, ci, n, y'⟩ := q
  simp only at hi
  subst hi
  unfold pvCal at h
  split at h
  · rename_i hlen
    simp only [Nat.ble_eq] at hlen
    have hta : (pvTs G (st.take n).reverse).length = n := by simp [pvTs, hlen]
    split at h
    · rename_i e0
      simp only at e0
      subst e0
      split at h
      · rename_i k st' hdr
        split at h
        · rename_i hb
          simp only [Bool.and_eq_true, Nat.blt_eq, Nat.beq_eq, Nat.ble_eq] at hb
          cases h
          refine ⟨hk.2, fun Q d' hd' hg => ?_⟩
          have es : pvTs G st = (pvTs G (st.take n).reverse).reverse ++ .ref (G.1 k) :: pvTs G st' := by
            have e1 : st = st.take n ++ .ref k :: st' := by rw [← hdr, List.take_append_drop]
            have e2 : pvTs G st = pvTs G (st.take n) ++ pvTr G (.ref k) :: pvTs G st' := by
              conv => lhs; rw [e1]
              simp [pvTs]
            rw [e2, pvTr_c (by omega)]
            simp [pvTs]
          refine fm_invV (As := pvTs G (st.take n).reverse) hk.1 hb.1.1 hb.1.2 hta rfl es (by rw [pvTs_cat]; exact hb.2) hd' hd ?_
          have hg' := hg
          rw [show pvTs G (.ref k :: (st.take n).reverse) = .ref (G.1 k) :: pvTs G (st.take n).reverse by
            show pvTr G (.ref k) :: pvTs G _ = _
            rw [pvTr_c (by omega)]] at hg'
          exact hg'
        · cases h
      · cases h
    · rename_i e0
      simp only at e0
      subst e0
      split at h
      · rename_i hb
        simp only [Nat.ble_eq] at hb
        cases h
        refine ⟨hk.2, fun Q d' hd' hg => ?_⟩
        have es : pvTs G st = (pvTs G (st.take n).reverse).reverse ++ pvTs G (st.drop n) := by
          simp only [pvTs, List.map_reverse, List.reverse_reverse, ← List.map_append, List.take_append_drop]
        exact fm_invS (args' := pvTs G (st.take n).reverse) hk.1 hta es (by rw [pvTs_cat]; exact hb) hd' hd hg
      · cases h
    · rename_i e0
      simp only at e0
      subst e0
      obtain ⟨c1, c2, c3⟩ := hk
      split at h
      · rename_i rr st'
        split at h
        · rename_i hb
          simp only [Bool.and_eq_true, Nat.blt_eq, Nat.ble_eq] at hb
          obtain ⟨⟨⟨b1, b2⟩, b3⟩, b4⟩ := hb
          cases h
          intro Q k
          rw [show pvTs G (.ref rr :: st') = .ref (G.2.2.2.1 (rr - 1000)) :: pvTs G st' by
            show pvTr G (.ref rr) :: pvTs G _ = _
            rw [pvTr_t' b1]]
          refine fm_invT0 (d' := 1) b2 c1 nm_J0_length_8abf5 nz_J0_length_8abf5 (by rw [pvTs_cat]; exact b4) (by omega) hd ?_
          exact c_strlen hst _ b2 (fm_then1 k)
        · cases h
      · cases h
    · rename_i e0
      simp only at e0
      subst e0
      obtain ⟨c1, c2, c3⟩ := hk
      split at h
      · rename_i x rr st'
        split at h
        · rename_i hb
          simp only [Bool.and_eq_true, Nat.blt_eq, Nat.ble_eq, decide_eq_true_eq] at hb
          obtain ⟨⟨⟨⟨⟨b1, b2⟩, b3⟩, b4⟩, b5⟩, b6⟩ := hb
          cases h
          intro Q k
          have hx : x = nI x.toNatClampNeg := by
            apply Int32.toInt_inj.mp
            have hl : fmLen.getD (rr - 1000) 0 < 64 := fmLen_lt _ b2
            have e1 : x.toNatClampNeg = x.toInt.toNat := rfl
            rw [nI_toInt (by rw [e1]; omega)]
            rw [e1]
            omega
          rw [show pvTs G (.int x :: .ref rr :: st') = .int x :: .ref (G.2.2.2.1 (rr - 1000)) :: pvTs G st' by
            show .int x :: pvTr G (.ref rr) :: pvTs G _ = _
            rw [pvTr_t' b1]]
          refine fm_invT1 (d' := 3) b2 c1 nm_J0_charAt_5068e nz_J0_charAt_5068e (by rw [pvTs_cat]; exact b4) (by omega) hd ?_
          rw [hx]
          refine c_charAt hst _ _ b2 ?_ ?_
          · show x.toInt.toNat < _
            omega
          · refine fm_then1 ?_
            have k' := k
            exact k'
        · cases h
      · cases h
    · cases h
  · cases h
theorem pvStat_ok {idx : Nat} (hst : l.stackTraces = false) (hT : T.1 ≤ 1000) (hd : decode y.2.1 pc = .ok (.invokestatic idx, 3)) (h : pvStat T d y.1.cls (pc + 3) idx L st M = some r) : pvSt T l G d y pc L st M r := by
  unfold pvStat at h
  split at h
  · rename_i q hq
    have h1 := (pvT_ok y.1.cls).1.1.2.2.2.1 q (List.mem_of_find?_eq_some hq)
    have h2 := List.find?_some hq
    simp only [Nat.beq_eq] at h2
    split at h
    · split at h
      · rename_i hb
        simp only [Bool.and_eq_true, Nat.ble_eq] at hb
        cases h
        intro Q k
        exact h1 _ _ _ _ _ _ _ _ _ _ _ _ hst rfl hb.1 (by have h9 := hb.2; rw [← pvTs_cat (G := G)] at h9; exact h9) (by rw [h2]; exact hd) k
      · cases h
    · cases h
  · split at h
    · rename_i hc
      exact pvCopy_ok hT hc hd h
    · split at h
      · rename_i q hq
        have h1 := (pvT_ok y.1.cls).1.1.2.2.2.2 q (List.mem_of_find?_eq_some hq)
        have h2 := List.find?_some hq
        simp only [Nat.beq_eq] at h2
        split at h
        · split at h
          · rename_i hb
            simp only [Bool.and_eq_true, Nat.ble_eq] at hb
            cases h
            intro Q k
            exact h1 _ _ _ _ _ _ _ _ _ _ _ _ hst rfl hb.1 (by have h9 := hb.2; rw [← pvTs_cat (G := G)] at h9; exact h9) (by rw [h2]; exact hd) k
          · cases h
        · cases h
      · split at h
        · rename_i q hq
          exact pvCal_ok (stat := true) hst hT hq hd h
        · cases h
theorem pvThr_ok {idx : Nat} (hd : decode y.2.1 pc = .ok (.new idx, 3)) (h : pvThr y pc idx st M = some r) : pvSt T l G d y pc L st M r := by
  obtain ⟨⟨yc, yn, yd⟩, c9, ml, rt⟩ := y
  unfold pvThr at h
  split at h
  · split at h
    · rename_i hb
      simp only [Bool.and_eq_true, Nat.beq_eq, decide_eq_true_eq] at hb
      obtain ⟨⟨b1, b2⟩, b3⟩ := hb
      have e := (pvT_ok yc).2.2 b1
      subst e
      split at h
      · rename_i hc
        simp only [Bool.and_eq_true, Nat.beq_eq, decide_eq_true_eq] at hc
        obtain ⟨⟨c1, c2⟩, c3⟩ := hc
        subst c1
        cases h
        exact fun Q k => fm_thrI hd b2 c2 c3 b3 k
      · split at h
        · rename_i hc
          simp only [Bool.and_eq_true, Nat.beq_eq, decide_eq_true_eq] at hc
          obtain ⟨⟨c1, c2⟩, c3⟩ := hc
          subst c1
          cases h
          exact fun Q k => fm_thrN hd b2 c2 c3 b3 k
        · cases h
    · cases h
  · cases h
theorem pvBr_ok {b : Bool} {off : Int} {st0 : List Value} (row : ∀ (tgt : Nat) (Q : fmR → fmM → Prop), (pc : Int) + off = (tgt : Int) → (b = true → fmEv T l G d y tgt (pvTl G L) (pvTs G st) M Q) → (b = false → fmEv T l G d y (pc + 3) (pvTl G L) (pvTs G st) M Q) → fmEv T l G d y pc (pvTl G L) (pvTs G st0) M Q) (h : pvBr b pc off L st M = some r) : pvSt T l G d y pc L st0 M r := by
  unfold pvBr at h
  split at h
  · rename_i ho
    simp only [decide_eq_true_eq] at ho
    split at h
    · rename_i hb
      cases h
      exact fun Q k => row _ Q (by omega) (fun _ => k) (fun e => by rw [hb] at e; cases e)
    · rename_i hb
      cases h
      exact fun Q k => row ((pc : Int) + off).toNat Q (by omega) (fun e => absurd e hb) (fun _ => k)
  · cases h
theorem scq_bool {v : Int32} (h : v = 0 ∨ v = 1) : narrow .boolean (.int v) = .int v := by
  rcases h with h | h <;> subst h <;> rfl
end PvSound
