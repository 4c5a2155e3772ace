-- THE FLAT MACHINE: a world whose cells are all there and never re-tied (class or reference after its constructor): memory M = ints and longs by (cell, place); references are fixed by tables T and addresses G
abbrev fmM : Type := (Nat → Nat → Int32) × (Nat → Nat → Int64)
/-- tables: how many cells; a cell's kind; its length (or number of fields); to which cell a place points -/
abbrev fmT : Type := Nat × (Nat → Nat) × (Nat → Nat) × (Nat → Nat → Nat)
/-- addresses of the cells; classes and slots of the objects; classes of the arrays; the String constants and their bytes -/
abbrev fmG : Type := (Nat → Nat) × va_G × (Nat → ClassId) × (Nat → Nat) × (Nat → Nat)
abbrev fmY : Type := MethodName × ByteArray × Nat × Option FieldType
/-- a method's end: returned, or the class thrown -/
abbrev fmR : Type := Option Value ⊕ String
def fmWs : List Cond := lw_tbl.filter goodWord
def fmWy (y : fmY) : List Cond := Cond.code y.1 y.2.1 y.2.2.1 y.2.2.2 :: fmWs
def fmTy (c j : Nat) : FieldType := match c with
  | 0 => tyX0 j
  | 1 => tyX1 j
  | 2 => tyX2 j
  | 3 => tyX3 j
  | 4 => tyX4 j
  | 5 => tyX5 j
  | 6 => tyX6 j
  | 7 => tyX7 j
  | 8 => tyX8 j
  | 9 => tyX9 j
  | 10 => tyX10 j
  | _ => tyX11 j
def fmVal (T : fmT) (G : fmG) (M : fmM) (k j : Nat) (ty : FieldType) : Value := match ty with
  | .int => .int (M.1 k j)
  | .long => .long (M.2 k j)
  | _ => .ref (G.1 (T.2.2.2 k j))
def fmRow (T : fmT) (G : fmG) (k : Nat) : Nat → Option Nat := fun i => if i < T.2.2.1 k then some (G.1 (T.2.2.2 k i)) else none
def fmEnt (T : fmT) (G : fmG) (M : fmM) (k : Nat) : va_E := match T.2.1 k with
  | 0 => .inl (G.2.2.1 0, T.2.2.1 k, .inl (M.1 k))
  | 1 => .inl (G.2.2.1 1, T.2.2.1 k, .inr (.inl (M.2 k)))
  | 2 => .inl (G.2.2.1 2, T.2.2.1 k, .inl (M.1 k))
  | 3 => .inl (G.2.2.1 3, T.2.2.1 k, .inr (.inr (.inr (.inr (fmRow T G k)))))
  | 4 => .inl (G.2.2.1 4, T.2.2.1 k, .inr (.inr (.inr (.inr (fmRow T G k)))))
  | 5 => .inl (G.2.2.1 5, T.2.2.1 k, .inr (.inr (.inr (.inr (fmRow T G k)))))
  | c + 6 => .inr (c, (List.range (T.2.2.1 k)).map (fun j => fmVal T G M k j (fmTy c j)))
def fmL (T : fmT) (G : fmG) (M : fmM) : va_W := (List.range T.1).map (fun k => (G.1 k, fmEnt T G M k))
def fmTys (G : fmG) : List (ClassId × FieldType) := [(G.2.2.1 0, .int), (G.2.2.1 1, .long), (G.2.2.1 2, .byte), (G.2.2.1 3, .object "LifeDrawer$Shelf"), (G.2.2.1 4, .object "LifeDrawer$State"), (G.2.2.1 5, .array .int)]
def fmI (M : fmM) (k j : Nat) (v : Int32) : fmM := (fun k' => if k' = k then upd (M.1 k) j v else M.1 k', M.2)
def fmJ (M : fmM) (k j : Nat) (v : Int64) : fmM := (M.1, fun k' => if k' = k then vp_updL (M.2 k) j v else M.2 k')
/-- a whole int array anew -/
def fmA (M : fmM) (k : Nat) (f : Nat → Int32) : fmM := (fun k' => if k' = k then f else M.1 k', M.2)
def fmB (M : fmM) (k : Nat) (f : Nat → Int64) : fmM := (M.1, fun k' => if k' = k then f else M.2 k')
theorem fmL_at {T : fmT} {G : fmG} {M : fmM} {rest : va_W} {k : Nat} (hk : k < T.1) : (fmL T G M ++ rest)[k]? = some (G.1 k, fmEnt T G M k) := by
  have hl : k < (fmL T G M).length := by simp [fmL, hk]
  rw [List.getElem?_append_left hl]
  simp [fmL, hk]
theorem fmL_set {T : fmT} {G : fmG} {M M' : fmM} {rest : va_W} {k : Nat} (hk : k < T.1) (h : ∀ k', k' ≠ k → fmEnt T G M' k' = fmEnt T G M k') : (fmL T G M ++ rest).set k (G.1 k, fmEnt T G M' k) = fmL T G M' ++ rest := by
  have hl : k < (fmL T G M).length := by simp [fmL, hk]
  rw [List.set_append_left _ _ hl]
  congr 1
  apply List.ext_getElem?
  intro i
  rw [List.getElem?_set]
  by_cases e : k = i
  · subst e
    simp [fmL, hk]
  · simp only [e, if_false]
    simp only [fmL, List.getElem?_map]
    cases hi : (List.range T.1)[i]? with
    | none => rfl
    | some j =>
      have hj : j = i := by
        have := List.getElem?_eq_some_iff.mp hi
        obtain ⟨h1, h2⟩ := this
        simpa using h2.symm
      subst hj
      simp [h j (fun q => e q.symm)]
theorem fmEnt_I {T : fmT} {G : fmG} {M : fmM} {k j : Nat} {v : Int32} : ∀ k', k' ≠ k → fmEnt T G (fmI M k j v) k' = fmEnt T G M k' := by
  intro k' h
  have e : (fmI M k j v).1 k' = M.1 k' := by simp [fmI, h]
  have e2 : (fmI M k j v).2 = M.2 := rfl
  simp only [fmEnt, fmVal, e, e2]
theorem fmEnt_J {T : fmT} {G : fmG} {M : fmM} {k j : Nat} {v : Int64} : ∀ k', k' ≠ k → fmEnt T G (fmJ M k j v) k' = fmEnt T G M k' := by
  intro k' h
  have e : (fmJ M k j v).2 k' = M.2 k' := by simp [fmJ, h]
  have e2 : (fmJ M k j v).1 = M.1 := rfl
  simp only [fmEnt, fmVal, e, e2]
theorem fmEnt_A {T : fmT} {G : fmG} {M : fmM} {k : Nat} {f : Nat → Int32} : ∀ k', k' ≠ k → fmEnt T G (fmA M k f) k' = fmEnt T G M k' := by
  intro k' h
  have e : (fmA M k f).1 k' = M.1 k' := by simp [fmA, h]
  have e2 : (fmA M k f).2 = M.2 := rfl
  simp only [fmEnt, fmVal, e, e2]
theorem fmEnt_B {T : fmT} {G : fmG} {M : fmM} {k : Nat} {f : Nat → Int64} : ∀ k', k' ≠ k → fmEnt T G (fmB M k f) k' = fmEnt T G M k' := by
  intro k' h
  have e : (fmB M k f).2 k' = M.2 k' := by simp [fmB, h]
  have e2 : (fmB M k f).1 = M.1 := rfl
  simp only [fmEnt, fmVal, e, e2]
theorem fmEnt_Iarr {T : fmT} {G : fmG} {M : fmM} {k j : Nat} {v : Int32} (hk : T.2.1 k = 0) : fmEnt T G (fmI M k j v) k = .inl (G.2.2.1 0, T.2.2.1 k, .inl (upd (M.1 k) j v)) := by
  simp [fmEnt, hk, fmI]
theorem fmEnt_Ibyte {T : fmT} {G : fmG} {M : fmM} {k j : Nat} {v : Int32} (hk : T.2.1 k = 2) : fmEnt T G (fmI M k j v) k = .inl (G.2.2.1 2, T.2.2.1 k, .inl (upd (M.1 k) j v)) := by
  simp [fmEnt, hk, fmI]
theorem fmEnt_Jarr {T : fmT} {G : fmG} {M : fmM} {k j : Nat} {v : Int64} (hk : T.2.1 k = 1) : fmEnt T G (fmJ M k j v) k = .inl (G.2.2.1 1, T.2.2.1 k, .inr (.inl (vp_updL (M.2 k) j v))) := by
  simp [fmEnt, hk, fmJ]
theorem fmEnt_Iobj {T : fmT} {G : fmG} {M : fmM} {k j c : Nat} {v : Int32} (hk : T.2.1 k = c + 6) (hj : j < T.2.2.1 k) (hty : fmTy c j = .int) : fmEnt T G (fmI M k j v) k = .inr (c, ((List.range (T.2.2.1 k)).map (fun j => fmVal T G M k j (fmTy c j))).set j (.int v)) := by
  simp only [fmEnt, hk]
  congr 2
  apply List.ext_getElem?
  intro i
  rw [List.getElem?_set]
  by_cases e : j = i
  · subst e
    simp [hj, hty, fmVal, fmI, upd]
  · simp only [e, if_false, List.getElem?_map]
    cases hi : (List.range (T.2.2.1 k))[i]? with
    | none => rfl
    | some q =>
      have hq : q = i := by
        obtain ⟨h1, h2⟩ := List.getElem?_eq_some_iff.mp hi
        simpa using h2.symm
      subst hq
      have e2 : ¬ q = j := fun z => e z.symm
      simp only [Option.map_some]
      cases fmTy c q <;> simp [fmVal, fmI, upd, e2]
theorem fmEnt_Jobj {T : fmT} {G : fmG} {M : fmM} {k j c : Nat} {v : Int64} (hk : T.2.1 k = c + 6) (hj : j < T.2.2.1 k) (hty : fmTy c j = .long) : fmEnt T G (fmJ M k j v) k = .inr (c, ((List.range (T.2.2.1 k)).map (fun j => fmVal T G M k j (fmTy c j))).set j (.long v)) := by
  simp only [fmEnt, hk]
  congr 2
  apply List.ext_getElem?
  intro i
  rw [List.getElem?_set]
  by_cases e : j = i
  · subst e
    simp [hj, hty, fmVal, fmJ, vp_updL]
  · simp only [e, if_false, List.getElem?_map]
    cases hi : (List.range (T.2.2.1 k))[i]? with
    | none => rfl
    | some q =>
      have hq : q = i := by
        obtain ⟨h1, h2⟩ := List.getElem?_eq_some_iff.mp hi
        simpa using h2.symm
      subst hq
      have e2 : ¬ q = j := fun z => e z.symm
      simp only [Option.map_some]
      cases fmTy c q <;> simp [fmVal, fmJ, vp_updL, e2]
-- LOCALS, by place
def fmHas (ls : Array Slot) (nL : Nat) (L : List (Option Value)) : Prop := ls.size = nL ∧ lv_wf ls ∧ ∀ (i : Nat) (v : Value), L[i]? = some (some v) → ls[i]? = some (.val v)
def fmLs (L : List (Option Value)) : List (Nat × Value) := (List.range L.length).filterMap (fun i => match L[i]? with
  | some (some v) => some (i, v)
  | _ => none)
theorem fmLs_mem {L : List (Option Value)} {i : Nat} {v : Value} : (i, v) ∈ fmLs L ↔ L[i]? = some (some v) := by
  unfold fmLs
  rw [List.mem_filterMap]
  constructor
  · rintro ⟨j, hj, h⟩
    cases hL : L[j]? with
    | none => simp [hL] at h
    | some w =>
      cases w with
      | none => simp [hL] at h
      | some w =>
        simp [hL] at h
        obtain ⟨rfl, rfl⟩ := h
        exact hL
  · intro h
    have hl : i < L.length := (List.getElem?_eq_some_iff.mp h).1
    exact ⟨i, by simp [hl], by simp [h]⟩
theorem fmHas.lv {ls : Array Slot} {nL : Nat} {L : List (Option Value)} (h : fmHas ls nL L) : lv_has ls nL (fmLs L) := ⟨h.1, h.2.1, fun q hq => h.2.2 q.1 q.2 (fmLs_mem.mp hq)⟩
/-- the place ahead holds no long -/
def fmNo2 (L : List (Option Value)) (i : Nat) : Bool := match i with
  | 0 => true
  | j + 1 => match L[j]? with
    | some (some v) => v.category != 2
    | _ => true
theorem fmHas.set1 {ls : Array Slot} {nL : Nat} {L : List (Option Value)} {i : Nat} {v : Value} (h : lv_has ls nL ((i, v) :: (fmLs L).filter (fun q => !(q.1 == i) && !(q.1 + 1 == i && q.2.category == 2)))) (hn : fmNo2 L i = true) : fmHas ls nL (L.set i (some v)) := by
  refine ⟨h.1, h.2.1, fun j w hj => ?_⟩
  rw [List.getElem?_set] at hj
  by_cases e : i = j
  · subst e
    simp only [if_true] at hj
    split at hj
    · simp at hj
      subst hj
      exact h.2.2 _ List.mem_cons_self
    · cases hj
  · simp only [e, if_false] at hj
    refine h.2.2 (j, w) (List.mem_cons_of_mem _ (List.mem_filter.mpr ⟨fmLs_mem.mpr hj, ?_⟩))
    have e1 : ¬ j = i := fun z => e z.symm
    simp only [Bool.and_eq_true, Bool.not_eq_true', beq_eq_false_iff_ne, ne_eq, e1, not_false_eq_true, true_and]
    by_cases e2 : j + 1 = i
    · subst e2
      simp [fmNo2, hj] at hn
      simp [hn]
    · simp [e2]
theorem fmHas.set2 {ls : Array Slot} {nL : Nat} {L : List (Option Value)} {i : Nat} {v : Value} (h : lv_has ls nL ((i, v) :: (fmLs L).filter (fun q => !(q.1 == i) && (!(q.1 == i + 1) && !(q.1 + 1 == i && q.2.category == 2))))) (hn : fmNo2 L i = true) : fmHas ls nL ((L.set i (some v)).set (i + 1) none) := by
  refine ⟨h.1, h.2.1, fun j w hj => ?_⟩
  rw [List.getElem?_set] at hj
  by_cases e0 : i + 1 = j
  · subst e0
    simp only [if_true] at hj
    split at hj <;> simp at hj
  · simp only [e0, if_false] at hj
    rw [List.getElem?_set] at hj
    by_cases e : i = j
    · subst e
      simp only [if_true] at hj
      split at hj
      · simp at hj
        subst hj
        exact h.2.2 _ List.mem_cons_self
      · cases hj
    · simp only [e, if_false] at hj
      refine h.2.2 (j, w) (List.mem_cons_of_mem _ (List.mem_filter.mpr ⟨fmLs_mem.mpr hj, ?_⟩))
      have e1 : ¬ j = i := fun z => e z.symm
      have e3 : ¬ j = i + 1 := fun z => e0 z.symm
      simp only [Bool.and_eq_true, Bool.not_eq_true', beq_eq_false_iff_ne, ne_eq, e1, e3, not_false_eq_true, true_and]
      by_cases e2 : j + 1 = i
      · subst e2
        simp [fmNo2, hj] at hn
        simp [hn]
      · simp [e2]
-- LINKS
/-- a class of the list: its layout's words, its fields' types and names -/
def fmCl (ci : Nat) (r : vw_C) : Prop := vwCl[ci]? = some r ∧ (∀ w ∈ u_ws r.1 r.2.1 r.2.2, w ∈ fmWs) ∧ (∀ k, k < r.2.2 → parseFieldDescriptor (r.2.1 k).2.2.1 = some (fmTy ci k)) ∧ ∀ a, a < r.2.2 → ∀ b, b < r.2.2 → a ≠ b → (r.2.1 a).2.1 ≠ (r.2.1 b).2.1
/-- place 'idx' of the pool of 'own' is field j of class ci -/
def fmFl (own : String) (idx ci j : Nat) : Prop := ∃ r : vw_C, fmCl ci r ∧ j < r.2.2 ∧ Cond.fieldLink own idx (r.2.1 j).1 (r.2.1 j).2.1 (r.2.1 j).2.2.1 ∈ fmWs
def fmFin (ci j : Nat) : Bool := match vwCl[ci]? with
  | some r => (r.2.1 j).2.2.2
  | none => true
/-- the words of a call: place 'idx' of the pool of 'own' is the method y -/
def fmCb (own : String) (idx : Nat) (y : fmY) (n : Nat) : Prop := Cond.methodLink own idx y.1 ∈ fmWs ∧ Cond.initialized y.1.cls ∈ fmWs ∧ Cond.code y.1 y.2.1 y.2.2.1 y.2.2.2 ∈ fmWs ∧ (y.1.cls ≠ "java/lang/invoke/MethodHandle" ∧ y.1.cls ≠ "java/lang/invoke/VarHandle" ∧ (parseMethodDescriptor y.1.desc).map (fun d => d.parameters.length) = some n) ∧ y.2.2.1 ≤ 40
def fmCv (own : String) (idx : Nat) (y : fmY) (n ci : Nat) : Prop := fmCb own idx y n ∧ Cond.instanceMethod y.1 ∈ fmWs ∧ Cond.selects y.1.cls y.1 y.1 ∈ fmWs ∧ ∃ r : vw_C, vwCl[ci]? = some r ∧ r.1 = y.1.cls
def fmCs (own : String) (idx : Nat) (y : fmY) (n : Nat) : Prop := fmCb own idx y n ∧ Cond.static y.1 ∈ fmWs
