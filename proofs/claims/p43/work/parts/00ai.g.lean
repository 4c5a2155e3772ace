-- P 10gc
section
-- THE CHECKER: branches and memory
def scCut (env : List scI) (a : scA) (lo hi : Int) : Option (List scI) := match a.1 with
  | none => if decide (lo ≤ a.2) && decide (a.2 ≤ hi) then some env else none
  | some i =>
    let e := env.getD i scTop
    let r : scI := (if e.1 ≤ lo - a.2 then lo - a.2 else e.1, if hi - a.2 ≤ e.2 then hi - a.2 else e.2)
    if r.1 ≤ r.2 then some (env.set i r) else none
theorem scCut_ok {env : List scI} {σ : List Int} {a : scA} {lo hi x : Int} (h : scEk env σ) (ha : scEv σ a x) (h1 : lo ≤ x) (h2 : x ≤ hi) : ∃ env', scCut env a lo hi = some env' ∧ scEk env' σ := by
  obtain ⟨o, c⟩ := a
  cases o with
  | none =>
    have ha' : x = c := ha
    subst ha'
    refine ⟨env, ?_, h⟩
    simp [scCut, h1, h2]
  | some i =>
    obtain ⟨v, hv, e⟩ := ha
    simp only at e
    have hi' : i < σ.length := (List.getElem?_eq_some_iff.mp hv).1
    have hi2 : i < env.length := by rw [h.1]; exact hi'
    have hb := h.2 i env[i] v (List.getElem?_eq_getElem hi2) hv
    have eg : env.getD i scTop = env[i] := by simp [List.getD, List.getElem?_eq_getElem hi2]
    have l1 : (if env[i].1 ≤ lo - c then lo - c else env[i].1) ≤ v := by split <;> omega
    have l2 : v ≤ (if hi - c ≤ env[i].2 then hi - c else env[i].2) := by split <;> omega
    refine ⟨env.set i (if env[i].1 ≤ lo - c then lo - c else env[i].1, if hi - c ≤ env[i].2 then hi - c else env[i].2), ?_, ?_⟩
    · simp only [scCut, eg]
      rw [if_pos (Int.le_trans l1 l2)]
    · refine ⟨by simp [h.1], fun j e' x' he hx => ?_⟩
      rw [List.getElem?_set] at he
      by_cases hij : i = j
      · subst hij
        simp only [if_true, hi2] at he
        cases he
        rw [hv] at hx
        cases hx
        exact ⟨l1, l2⟩
      · simp only [hij, if_false] at he
        exact h.2 j e' x' he hx
def scCutC (c : scCo) (env : List scI) (a b : scA) : Option (List scI) :=
  let x := scIv env a
  let z := scIv env b
  match c with
  | .eq => (scCut env a z.1 z.2).bind (fun e => scCut e b x.1 x.2)
  | .lt => (scCut env a x.1 (z.2 - 1)).bind (fun e => scCut e b (x.1 + 1) z.2)
  | .le => (scCut env a x.1 z.2).bind (fun e => scCut e b x.1 z.2)
  | .gt => (scCut env a (z.1 + 1) x.2).bind (fun e => scCut e b z.1 (x.2 - 1))
  | .ge => (scCut env a z.1 x.2).bind (fun e => scCut e b z.1 x.2)
  | .ne => if z.1 = z.2 then (if x.1 = z.1 then scCut env a (x.1 + 1) x.2 else if x.2 = z.1 then scCut env a x.1 (x.2 - 1) else some env)
    else if x.1 = x.2 then (if z.1 = x.1 then scCut env b (z.1 + 1) z.2 else if z.2 = x.1 then scCut env b z.1 (z.2 - 1) else some env)
    else some env
theorem scCut_two {env : List scI} {σ : List Int} {a b : scA} {x z l1 h1 l2 h2 : Int} (h : scEk env σ) (ha : scEv σ a x) (hb : scEv σ b z) (p1 : l1 ≤ x) (p2 : x ≤ h1) (p3 : l2 ≤ z) (p4 : z ≤ h2) : ∃ env', (scCut env a l1 h1).bind (fun e => scCut e b l2 h2) = some env' ∧ scEk env' σ := by
  obtain ⟨e1, q1, k1⟩ := scCut_ok h ha p1 p2
  obtain ⟨e2, q2, k2⟩ := scCut_ok k1 hb p3 p4
  exact ⟨e2, by rw [q1]; exact q2, k2⟩
theorem scCutC_ok {c : scCo} {env : List scI} {σ : List Int} {a b : scA} {x z : Int} (h : scEk env σ) (ha : scEv σ a x) (hb : scEv σ b z) (hr : scRel c x z) : ∃ env', scCutC c env a b = some env' ∧ scEk env' σ := by
  have ia := ha.iv h
  have ib := hb.iv h
  cases c with
  | eq =>
    have hr' : x = z := hr
    exact scCut_two h ha hb (by omega) (by omega) (by omega) (by omega)
  | lt =>
    have hr' : x < z := hr
    exact scCut_two h ha hb (by omega) (by omega) (by omega) (by omega)
  | le =>
    have hr' : x ≤ z := hr
    exact scCut_two h ha hb (by omega) (by omega) (by omega) (by omega)
  | gt =>
    have hr' : z < x := hr
    exact scCut_two h ha hb (by omega) (by omega) (by omega) (by omega)
  | ge =>
    have hr' : z ≤ x := hr
    exact scCut_two h ha hb (by omega) (by omega) (by omega) (by omega)
  | ne =>
    have hr' : ¬ x = z := hr
    simp only [scCutC]
    split
    · split
      · exact scCut_ok h ha (by omega) (by omega)
      · split
        · exact scCut_ok h ha (by omega) (by omega)
        · exact ⟨env, rfl, h⟩
    · split
      · split
        · exact scCut_ok h hb (by omega) (by omega)
        · split
          · exact scCut_ok h hb (by omega) (by omega)
          · exact ⟨env, rfl, h⟩
      · exact ⟨env, rfl, h⟩
/-- what stands at one place -/
def scRead (inv : Nat → List scI) (env : List scI) (F : List scF) (k j : Nat) : scR × List scF := match F.find? (fun f => f.1.1 == k && f.1.2 == j) with
  | some f => ((f.2, env), F)
  | none => (scNew env (scAt (inv k) j), ((k, j), (some env.length, 0)) :: F)
theorem scRead_ok {T : fmT} {inv : Nat → List scI} {env : List scI} {σ : List Int} {F : List scF} {k j : Nat} {M : fmM} (h : scEk env σ) (hF : scFk σ F M) (hI : scInv T inv M) (hj : j < T.2.2.1 k) : ∃ τ : List Int, scEk (scRead inv env F k j).1.2 (σ ++ τ) ∧ scEv (σ ++ τ) (scRead inv env F k j).1.1 (M.1 k j).toInt ∧ scFk (σ ++ τ) (scRead inv env F k j).2 M := by
  unfold scRead
  split
  · rename_i f hf
    have h1 := List.find?_some hf
    have h2 := List.mem_of_find?_eq_some hf
    simp only [Bool.and_eq_true, beq_iff_eq] at h1
    refine ⟨[], by simpa using h, ?_, by simpa using hF⟩
    have := hF f h2
    rw [h1.1, h1.2] at this
    simpa using this
  · have hb := hI.1 k j hj
    refine ⟨[(M.1 k j).toInt], h.push hb.1 hb.2, scEv.new h, fun f hf => ?_⟩
    rcases List.mem_cons.mp hf with e | hf
    · subst e
      exact scEv.new h
    · exact (hF f hf).mono
theorem scJoin_l {a b : scI} {x : Int} (h : a.1 ≤ x ∧ x ≤ a.2) : (scJoin a b).1 ≤ x ∧ x ≤ (scJoin a b).2 := by
  unfold scJoin
  constructor
  · show (if _ then _ else _) ≤ _
    split <;> omega
  · show _ ≤ (if _ then _ else _)
    split <;> omega
theorem scJoin_r {a b : scI} {x : Int} (h : b.1 ≤ x ∧ x ≤ b.2) : (scJoin a b).1 ≤ x ∧ x ≤ (scJoin a b).2 := by
  unfold scJoin
  constructor
  · show (if _ then _ else _) ≤ _
    split <;> omega
  · show _ ≤ (if _ then _ else _)
    split <;> omega
theorem scRg_ok {l : List scI} {a n j : Nat} {x : Int} (h1 : a ≤ j) (h2 : j ≤ a + n) (h : (scAt l j).1 ≤ x ∧ x ≤ (scAt l j).2) : (scRg l a n).1 ≤ x ∧ x ≤ (scRg l a n).2 := by
  unfold scRg
  split
  · exact h
  · rename_i l' hne
    have h' : (l.getD j scTop).1 ≤ x ∧ x ≤ (l.getD j scTop).2 := by
      unfold scAt at h
      split at h
      · rename_i e
        exact absurd rfl (hne e)
      · exact h
    clear h hne
    induction n with
    | zero =>
      have : j = a := by omega
      subst this
      exact h'
    | succ n ih =>
      show (scJoin _ _).1 ≤ x ∧ x ≤ (scJoin _ _).2
      by_cases hj : j ≤ a + n
      · exact scJoin_l (ih hj)
      · have : j = a + n + 1 := by omega
        subst this
        exact scJoin_r h'
def scRgs (inv : Nat → List scI) (a n : Nat) : List Nat → scI
  | [] => scTop
  | k :: ks => match ks with
    | [] => scRg (inv k) a n
    | _ :: _ => scJoin (scRg (inv k) a n) (scRgs inv a n ks)
theorem scRgs_ok {T : fmT} {inv : Nat → List scI} {a n j k : Nat} {M : fmM} (hI : scInv T inv M) (hj : j < T.2.2.1 k) (h1 : a ≤ j) (h2 : j ≤ a + n) : ∀ {ks : List Nat}, k ∈ ks → (scRgs inv a n ks).1 ≤ (M.1 k j).toInt ∧ (M.1 k j).toInt ≤ (scRgs inv a n ks).2
  | [q], hk => by
    have : k = q := by simpa using hk
    subst this
    exact scRg_ok h1 h2 (hI.1 k j hj)
  | q :: r :: ks, hk => by
    show (scJoin _ _).1 ≤ _ ∧ _ ≤ (scJoin _ _).2
    rcases List.mem_cons.mp hk with e | hk
    · subst e
      exact scJoin_l (scRg_ok h1 h2 (hI.1 k j hj))
    · exact scJoin_r (scRgs_ok hI hj h1 h2 hk)
/-- W lets places a to a + n of cell k be written -/
def scWin (W : List (Nat × Nat × Nat)) (k a n : Nat) : Bool := W.any (fun w => w.1 == k && Nat.ble w.2.1 a && Nat.blt (a + n) (w.2.1 + w.2.2))
theorem scWin_in {W : List (Nat × Nat × Nat)} {k a n j : Nat} (h : scWin W k a n = true) (h1 : a ≤ j) (h2 : j ≤ a + n) : scIn W k j = true := by
  obtain ⟨w, hw, h⟩ := List.any_eq_true.mp h
  refine List.any_eq_true.mpr ⟨w, hw, ?_⟩
  simp only [Bool.and_eq_true, beq_iff_eq, Nat.ble_eq, Nat.blt_eq] at h ⊢
  omega
/-- bounds e are within those of places a to a + n -/
def scInto (e : scI) (l : List scI) (a n : Nat) : Bool := match l with
  | [e'] => scSub e e'
  | l => Nat.rec (motive := fun _ => Bool) (scSub e (l.getD a scTop)) (fun q r => r && scSub e (l.getD (a + q + 1) scTop)) n
theorem scSub_ok {e e' : scI} {x : Int} (h : scSub e e' = true) (hx : e.1 ≤ x ∧ x ≤ e.2) : e'.1 ≤ x ∧ x ≤ e'.2 := by
  simp only [scSub, Bool.and_eq_true, decide_eq_true_eq] at h
  omega
theorem scInto_ok {e : scI} {l : List scI} {a n j : Nat} {x : Int} (h : scInto e l a n = true) (h1 : a ≤ j) (h2 : j ≤ a + n) (hx : e.1 ≤ x ∧ x ≤ e.2) : (scAt l j).1 ≤ x ∧ x ≤ (scAt l j).2 := by
  unfold scInto at h
  split at h
  · exact scSub_ok h hx
  · rename_i l' hne
    have hl : scAt l j = l.getD j scTop := by
      unfold scAt
      split
      · rename_i e
        exact absurd rfl (hne e)
      · rfl
    rw [hl]
    clear hl hne
    induction n with
    | zero =>
      have : j = a := by omega
      subst this
      exact scSub_ok h hx
    | succ n ih =>
      have h' : (Nat.rec (motive := fun _ => Bool) (scSub e (l.getD a scTop)) (fun q r => r && scSub e (l.getD (a + q + 1) scTop)) n && scSub e (l.getD (a + n + 1) scTop)) = true := h
      rw [Bool.and_eq_true] at h'
      by_cases hj : j ≤ a + n
      · exact ih hj h'.1
      · have : j = a + n + 1 := by omega
        subst this
        exact scSub_ok h'.2 hx
def scWr (inv : Nat → List scI) (W : List (Nat × Nat × Nat)) (ks : List Nat) (a n : Nat) (e : scI) : Bool := ks.all (fun k => scWin W k a n && scInto e (inv k) a n && scFree inv k a n)
def scKl (F : List scF) (ks : List Nat) (a n : Nat) : List scF := F.filter (fun f => !(ks.contains f.1.1 && Nat.ble a f.1.2 && Nat.ble f.1.2 (a + n)))
theorem scFr.toI {W : List (Nat × Nat × Nat)} {M0 M : fmM} {k j : Nat} {v : Int32} (h : scFr W M0 M) (hw : scIn W k j = true) : scFr W M0 (fmI M k j v) := by
  intro k' j' hn
  have := h k' j' hn
  refine ⟨?_, this.2⟩
  rw [← this.1]
  by_cases e : k' = k
  · subst e
    by_cases e2 : j' = j
    · subst e2
      rw [hw] at hn
      cases hn
    · exact fmI_j M v e2
  · rw [fmI_k M v e]
theorem scFr.toJ {W : List (Nat × Nat × Nat)} {M0 M : fmM} {k j : Nat} {v : Int64} (h : scFr W M0 M) (hw : scIn W k j = true) : scFr W M0 (fmJ M k j v) := by
  intro k' j' hn
  have := h k' j' hn
  refine ⟨this.1, ?_⟩
  rw [← this.2]
  by_cases e : k' = k
  · subst e
    by_cases e2 : j' = j
    · subst e2
      rw [hw] at hn
      cases hn
    · exact fmJ_j M v e2
  · rw [fmJ_k M v e]
theorem scWr_ok {T : fmT} {inv : Nat → List scI} {W : List (Nat × Nat × Nat)} {ks : List Nat} {a n k j : Nat} {e : scI} {M0 M : fmM} {v : Int32} (h : scWr inv W ks a n e = true) (hk : k ∈ ks) (h1 : a ≤ j) (h2 : j ≤ a + n) (hv : e.1 ≤ v.toInt ∧ v.toInt ≤ e.2) (hI : scInv T inv M) (hW : scFr W M0 M) : scInv T inv (fmI M k j v) ∧ scFr W M0 (fmI M k j v) := by
  have h := List.all_eq_true.mp h k hk
  rw [Bool.and_eq_true, Bool.and_eq_true] at h
  refine ⟨⟨fun k' j' hj' => ?_, ?_⟩, hW.toI (scWin_in h.1.1 h1 h2)⟩
  · by_cases e1 : k' = k
    · subst e1
      by_cases e2 : j' = j
      · subst e2
        rw [fmI_s]
        exact scInto_ok h.1.2 h1 h2 hv
      · rw [fmI_j M v e2]
        exact hI.1 k' j' hj'
    · rw [fmI_k M v e1]
      exact hI.1 k' j' hj'
  · refine scFree_ok h.2 hI.2 (fun k' j' hn => ?_)
    by_cases e1 : k' = k
    · subst e1
      exact fmI_j M v (fun e2 => hn ⟨rfl, by omega, by omega⟩)
    · rw [fmI_k M v e1]
theorem scKl_ok {F : List scF} {ks : List Nat} {a n k j : Nat} {σ : List Int} {M : fmM} {v : Int32} (hk : k ∈ ks) (h1 : a ≤ j) (h2 : j ≤ a + n) (hF : scFk σ F M) : scFk σ (scKl F ks a n) (fmI M k j v) := by
  intro f hf
  obtain ⟨hf, hn⟩ := List.mem_filter.mp hf
  have := hF f hf
  by_cases e1 : f.1.1 = k
  · by_cases e2 : f.1.2 = j
    · exfalso
      have : (ks.contains f.1.1 && Nat.ble a f.1.2 && Nat.ble f.1.2 (a + n)) = true := by
        rw [e1, e2]
        simp only [Bool.and_eq_true, Nat.ble_eq, List.contains_iff_mem]
        exact ⟨⟨hk, h1⟩, h2⟩
      rw [this] at hn
      cases hn
    · rw [e1] at this ⊢
      rw [fmI_j M v e2]
      exact this
  · rw [fmI_k M v e1]
    exact this
end
