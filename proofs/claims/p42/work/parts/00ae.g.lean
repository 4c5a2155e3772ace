-- P 04c
section
def kxL : List Nat := [16, 13, 2, 14, 0, 0, 0, 0, 0, 0, 0, 0, 0, 14, 0, 0, 0, 0, 0, 0, 0, 0, 0, 7, 0, 0, 0, 8, 15, 0, 0, 0, 6, 1, 9, 1, 1, 0, 0, 10, 1, 12, 0, 3, 0, 0]
def nxL : List Nat := [17, 6, 600, 15, 8, 8, 8, 8, 8, 8, 24, 24, 24, 15, 8, 8, 8, 8, 8, 8, 24, 24, 24, 5, 150, 150, 24, 3, 7, 150, 150, 150, 3, 8, 7, 2197, 8, 24, 3, 5, 8, 7, 8, 3, 8, 201]
def rxL : List (List Nat) := [[1, 3, 13, 23, 27, 28, 32, 34, 39, 46, 43, 44, 45], [2], [], [4, 5, 6, 7, 8, 9, 10, 11, 12], [], [], [], [], [], [], [], [], [], [14, 15, 16, 17, 18, 19, 20, 21, 22], [], [], [], [], [], [], [], [], [], [24, 25, 26], [], [], [], [], [29, 30, 31], [], [], [], [3, 23, 33], [], [32, 35, 36, 37, 38], [], [], [], [], [41, 0, 32, 40], [], [42], [], [], [], []]
/-- a shelf is 36 cells: itself, now and its piece, the row of states before, 16 states, their 16 pieces -/
def kxS (r : Nat) : Nat := if r = 0 then 11 else if r = 1 then 12 else if r = 2 then 0 else if r = 3 then 4 else if r < 20 then 12 else 0
def nxS (r : Nat) : Nat := if r = 0 then 3 else if r = 1 then 7 else if r = 2 then 8 else if r = 3 then 16 else if r < 20 then 7 else 8
def rxS (k r j : Nat) : Nat := if r = 0 then (if j = 0 then k + 1 else k + 3) else if r = 1 then k + 1 else if r = 3 then k + 1 + j else k + 16
def Tx : fmT := (190, fun k => if k < 46 then kxL.getD k 0 else kxS ((k - 46) % 36), fun k => if k < 46 then nxL.getD k 0 else nxS ((k - 46) % 36), fun k j => if k < 46 then (if k = 43 then 82 + 36 * j else (rxL.getD k []).getD j 0) else rxS k ((k - 46) % 36) j)
def kmL : List Nat := [17, 0, 0, 0, 0, 0, 0, 0, 0, 1, 1, 1, 1, 0, 0, 0, 5, 5, 5, 5, 5, 5, 5, 5, 5, 5, 5]
def nmL : List Nat := [49, 600, 2, 6, 6, 160, 5, 14, 14, 2197, 2197, 2197, 2197, 3, 8, 8, 8, 8, 24, 24, 160, 160, 6, 6, 80, 16, 3]
def rmF : List Nat := [0, 0, 0, 0, 0, 0, 0, 0, 0, 1, 2, 3, 4, 16, 17, 18, 19, 0, 0, 20, 21, 22, 23, 5, 6, 24, 0, 7, 8, 25, 26, 0, 0, 0, 0, 0, 0, 0, 9, 10, 11, 12, 13, 0, 14, 15, 0, 0, 0]
def bmL : List Nat := [27, 35, 43, 67, 91, 251, 411, 417, 423, 503, 519]
def nmR (k : Nat) : Nat := if k < 35 then 6 else if k < 43 then 6 else if k < 67 then 3 else if k < 91 then 3 else if k < 251 then 2 else if k < 411 then 2 else if k < 417 then 2 else if k < 423 then 2 else if k < 503 then 3 else if k < 519 then 14 else 239
def Tm : fmT := (522, fun k => if k < 27 then kmL.getD k 0 else 0, fun k => if k < 27 then nmL.getD k 0 else nmR k, fun k j => if k = 0 then rmF.getD j 0 else bmL.getD (k - 16) 0 + j)
end
-- P 05
section
-- THE JUDGEMENTS OF THE FLAT MACHINE
def fmLen : List Nat := [12, 21, 39, 38, 27]
def fmB8 (t : List Nat) : List Int32 := t.map (fun n => Int32.ofNat n)
def fmByt : List (List Int32) := [fmB8 [110, 111, 32, 115, 117, 99, 104, 32, 108, 105, 102, 101], fmB8 [110, 111, 116, 32, 119, 105, 116, 104, 105, 110, 32, 105, 116, 115, 32, 98, 111, 117, 110, 100, 115], fmB8 [108, 105, 102, 101, 32, 104, 97, 115, 32, 98, 121, 32, 102, 97, 99, 116, 32, 104, 111, 117, 114, 115, 32, 108, 97, 99, 107, 32, 119, 114, 111, 110, 103, 32, 104, 97, 108, 102, 32], fmB8 [97, 103, 101, 32, 121, 101, 97, 114, 115, 32, 119, 111, 114, 116, 104, 32, 100, 101, 97, 100, 32, 102, 97, 99, 116, 115, 32, 108, 101, 97, 115, 116, 32, 109, 111, 115, 116, 32], fmB8 [119, 114, 105, 116, 101, 32, 114, 101, 110, 101, 119, 32, 100, 105, 101, 32, 119, 101, 101, 107, 32, 97, 103, 97, 105, 110, 32]]
/-- what Preconditions.SIOOBE_FORMATTER holds: null or some reference, kept at place 99 of the texts' addresses -/
def fmSi (G : fmG) : Value := match G.2.2.2.1 99 with
  | 0 => .null
  | t + 1 => .ref t
def fmSt (G : fmG) (A : Nat → Prop) (U : State) (H : Heap) : Prop := va_Z "java/lang/String" "COMPACT_STRINGS" "Z" (.int 1) A U H ∧ va_Z "jdk/internal/util/Preconditions" "SIOOBE_FORMATTER" "Ljava/util/function/BiFunction;" (fmSi G) A U H
def fmStr (G : fmG) (A : Nat → Prop) (s : State) : Prop := vk_S 5 fmLen fmByt G.2.2.2.1 G.2.2.2.2 A s s.heap ∧ vk_R "LifeDrawer" 371 "no such life" (G.2.2.2.1 0) s ∧ vk_R "LifeDrawer" 378 "not within its bounds" (G.2.2.2.1 1) s ∧ vk_R "LifeDrawer$Told" 91 "life has by fact hours lack wrong half " (G.2.2.2.1 2) s ∧ vk_R "LifeDrawer$Law" 76 "age years worth dead facts least most " (G.2.2.2.1 3) s ∧ vk_R "LifeDrawer$Work" 54 "write renew die week again " (G.2.2.2.1 4) s ∧ fmSt G A s s.heap
abbrev fmIAE : String := "java/lang/IllegalArgumentException"
abbrev fmNSE : String := "java/util/NoSuchElementException"
def fmCa (C D : String) (U : State) : Prop := ∃ c t : ClassId, U.vm.findClass C = some c ∧ U.vm.findClass D = some t ∧ U.vm.assignable c t = true
theorem fmCa.moved {C D : String} {u U : State} (hvm : u.vm.Alike U.vm) (h : fmCa C D u) : fmCa C D U := by
  obtain ⟨c, t, h1, h2, h3⟩ := h
  exact ⟨c, t, by rw [hvm.findClass]; exact h1, by rw [hvm.findClass]; exact h2, by rw [hvm.assignable]; exact h3⟩
theorem fmCa.of {args : Array Value} {s : State} {C D : String} (h : (Cond.castable C D).before args s = true) : fmCa C D s := by
  obtain ⟨c, t, h1, h2, h3⟩ := Cond.castable_spec h
  exact ⟨c, t, h1, h2, h3⟩
theorem fmCa.use {args : Array Value} {s : State} {C D : String} (h : fmCa C D s) : (Cond.castable C D).before args s = true := by
  obtain ⟨c, t, h1, h2, h3⟩ := h
  simp [Cond.before, Cond.holds, Cond.value, h1, h2, h3]
def fmDe (x : MethodName) (U : State) : Prop := (Cond.declares x).before #[] U = true
theorem fmDe.moved {x : MethodName} {u U : State} (hvm : u.vm.Alike U.vm) (h : fmDe x u) : fmDe x U := va_tabs rfl (rfl : (u.setVm U.vm).vm = U.vm) (by rw [Cond.declares_setVm hvm]; exact h)
theorem fmDe.of {A : Array Value} {x : MethodName} {U : State} (h : (Cond.declares x).before A U = true) : fmDe x U := va_tabs rfl rfl h
theorem fmDe.use {A : Array Value} {x : MethodName} {U : State} (h : fmDe x U) : (Cond.declares x).before A U = true := va_tabs rfl rfl h
def fmDes (s : State) : Prop := fmDe (Bundle.initS "java/lang/RuntimeException") s ∧ fmDe (Bundle.initS "java/lang/Exception") s ∧ fmDe (Bundle.initS Bundle.tN) s
def fmCas (s : State) : Prop := fmCa fmIAE fmIAE s ∧ fmCa fmNSE fmNSE s ∧ va_Nc fmIAE fmNSE s ∧ fmDes s
theorem fmCas.moved {u U : State} (hvm : u.vm.Alike U.vm) (h : fmCas u) : fmCas U := ⟨h.1.moved hvm, h.2.1.moved hvm, h.2.2.1.moved hvm, h.2.2.2.1.moved hvm, h.2.2.2.2.1.moved hvm, h.2.2.2.2.2.moved hvm⟩
/-- what stays true all through a method: classes, statics, texts -/
def fmEnv (G : fmG) (A : Nat → Prop) (s : State) : Prop := va_K G.2.1 vwCl (fmTys G) s ∧ vx_Zq Bundle.tN "UNASSIGNED_STACK" Bundle.steD A s s.heap ∧ vx_Zq Bundle.tN "SUPPRESSED_SENTINEL" Bundle.listD A s s.heap ∧ fmCas s ∧ fmStr G A s
def fmPic (T : fmT) (G : fmG) (A : Nat → Prop) (M : fmM) (rest : va_W) (H : Heap) : Prop := va_P G.2.1 vwCl (fmL T G M ++ rest) H ∧ va_D A (fmL T G M ++ rest)
theorem fmEnv.warm {G : fmG} {A : Nat → Prop} {s U : State} {H : Heap} {locs : List Loc} (h : fmEnv G A s) (hS : va_S A s.heap H locs) (hU : U.heap = H) (hW : s.WarmedH U.vm) : fmEnv G A U := by
  obtain ⟨h1, h2, h3, h0, h4, h5, h6, h7, h8, h9, ha, hb⟩ := h
  refine ⟨va_K.moved hW.alike h1, ?_, ?_, h0.moved hW.alike, ?_, vk_R.warm hW h5, vk_R.warm hW h6, vk_R.warm hW h7, vk_R.warm hW h8, vk_R.warm hW h9, ?_, ?_⟩
  · rw [hU]; exact vx_Zq.moved hW.alike (h2.kept hS.2.1)
  · rw [hU]; exact vx_Zq.moved hW.alike (h3.kept hS.2.1)
  · rw [hU]; exact vk_S.moved hW.alike (h4.kept hS.2.1)
  · rw [hU]; exact va_Z.moved hW.alike (ha.kept hS.2.1)
  · rw [hU]; exact va_Z.moved hW.alike (hb.kept hS.2.1)
theorem fmEnv.calling {G : fmG} {A : Nat → Prop} {U : State} {g : JFrame} {mk : MethodId} {a : Array Value} (h : fmEnv G A U) : fmEnv G A (U.calling g mk a) := by
  obtain ⟨h1, h2, h3, h0, h4, h5, h6, h7, h8, h9, ha, hb⟩ := h
  exact ⟨va_K.moved (u := U) (U := U.calling g mk a) (Vm.Alike.refl U.vm) h1, vx_Zq.moved (u := U) (U := U.calling g mk a) (Vm.Alike.refl U.vm) h2, vx_Zq.moved (u := U) (U := U.calling g mk a) (Vm.Alike.refl U.vm) h3, h0.moved (u := U) (U := U.calling g mk a) (Vm.Alike.refl U.vm), vk_S.moved (u := U) (U := U.calling g mk a) (Vm.Alike.refl U.vm) h4, vk_R.same (u := U) (U := U.calling g mk a) rfl h5, vk_R.same (u := U) (U := U.calling g mk a) rfl h6, vk_R.same (u := U) (U := U.calling g mk a) rfl h7, vk_R.same (u := U) (U := U.calling g mk a) rfl h8, vk_R.same (u := U) (U := U.calling g mk a) rfl h9, va_Z.moved (u := U) (U := U.calling g mk a) (Vm.Alike.refl U.vm) ha, va_Z.moved (u := U) (U := U.calling g mk a) (Vm.Alike.refl U.vm) hb⟩
def fmFix (p : Program) (s : State) (m : MethodId) (args : Array Value) (meth : Method) (c : Code) (y : fmY) : Prop := p.tables.exec = Jvm.exec ∧ c.code = y.2.1 ∧ c.maxLocals = y.2.2.1 ∧ meth.sig.returnType = y.2.2.2 ∧ s.vm.findClass y.1.cls = some m.cls ∧ (∀ w ∈ fmWy y, w.before args s = true) ∧ meth.locks = false ∧ ∀ x ∈ c.exceptionTable.toList, False
def fmMc (o : fmR) : Nat := match o with
  | .inl _ => 0
  | .inr _ => 1
def fmMs (o : fmR) : Nat := match o with
  | .inl _ => 0
  | .inr _ => 6
def fmRm (d : Nat) (o : fmR) : Room := { frames := d + 10, locals := 60 * d + 200, cells := fmMc o, slots := fmMs o }
def fmQc (T : fmT) (G : fmG) (A : Nat → Prop) (M : fmM) (rest : va_W) (o : fmR) : Array Value → State → Outcome → State → Prop := fun _ st oc t => (∃ v, o = .inl v ∧ oc = .returned v) ∧ fmPic T G A M rest t.heap ∧ va_F A st t
def fmXC (T : fmT) (G : fmG) (A : Nat → Prop) (M : fmM) (rest : va_W) (o : fmR) : String → State → State → Prop := fun E st t => o = .inr E ∧ fmPic T G A M rest t.heap ∧ va_F A st t
def fmEnds (T : fmT) (l : Launch) (G : fmG) (d : Nat) (y : fmY) (pc : Nat) (L : List (Option Value)) (st : List Value) (M : fmM) (o : fmR) (M' : fmM) : Prop :=
  ∀ (p : Program) (e : Env) (s : State) (m : MethodId) (args : Array Value) (below : List Frame) (meth : Method) (c : Code) (H : Heap) (locs : List Loc) (A : Nat → Prop) (rest : va_W) (ls : Array Slot), l.stackTraces = false → fmFix p s m args meth c y → fmEnv G A s → (∀ q : Nat, s.heap.size ≤ q → A q) → fmPic T G A M rest H → va_S A s.heap H locs → fmHas ls y.2.2.1 L →
    W p l e (fmRm d o) s m args below meth c H locs 0 0 (vx_MQ below (fmQc T G A M' rest o) (fmXC T G A M' rest o) args s (fmMc o) (fmMs o) A) (F0 m pc ls st)
/-- from here on the method comes to an end with Q -/
def fmEv (T : fmT) (l : Launch) (G : fmG) (d : Nat) (y : fmY) (pc : Nat) (L : List (Option Value)) (st : List Value) (M : fmM) (Q : fmR → fmM → Prop) : Prop := ∃ (o : fmR) (M' : fmM), Q o M' ∧ fmEnds T l G d y pc L st M o M'
def fmPc (T : fmT) (G : fmG) (args : List Value) (M : fmM) (A : Nat → Prop) (rest : va_W) : Array Value → State → Prop := va_Pc args (fun U => fmEnv G A U ∧ (∀ q : Nat, U.heap.size ≤ q → A q) ∧ fmPic T G A M rest U.heap)
/-- a call of y with these arguments comes to an end with Q -/
def fmGood (T : fmT) (l : Launch) (G : fmG) (d : Nat) (y : fmY) (args : List Value) (M : fmM) (Q : fmR → fmM → Prop) : Prop := ∃ (o : fmR) (M' : fmM), Q o M' ∧ ∀ (A : Nat → Prop) (rest : va_W), vx_Met l y.1 (fmWy y) (fmRm d o) (fmPc T G args M A rest) (fmQc T G A M' rest o) (fmXC T G A M' rest o) (fmMc o) (fmMs o) A
theorem fmPc.blind {T : fmT} {G : fmG} {args : List Value} {M : fmM} {A : Nat → Prop} {rest : va_W} : FrameBlind (fmPc T G args M A rest) := by
  intro a U g mk h
  obtain ⟨h0, h1, h2, h3⟩ := h
  exact ⟨h0, h1.calling, h2, h3⟩
section FmRows
variable {T : fmT} {l : Launch} {G : fmG} {d : Nat} {y : fmY} {pc : Nat} {L : List (Option Value)} {st : List Value} {M : fmM} {Q : fmR → fmM → Prop}
theorem fmEv.imp {Q' : fmR → fmM → Prop} (h : fmEv T l G d y pc L st M Q) (hq : ∀ o M', Q o M' → Q' o M') : fmEv T l G d y pc L st M Q' := by
  obtain ⟨o, M', h1, h2⟩ := h
  exact ⟨o, M', hq o M' h1, h2⟩
theorem fmGood.imp {args : List Value} {Q' : fmR → fmM → Prop} (h : fmGood T l G d y args M Q) (hq : ∀ o M', Q o M' → Q' o M') : fmGood T l G d y args M Q' := by
  obtain ⟨o, M', h1, h2⟩ := h
  exact ⟨o, M', hq o M' h1, h2⟩
theorem fm_row {pc' : Nat} {st' : List Value} (h : ∀ (p : Program) (e : Env) (R : Room) (s : State) (m : MethodId) (args : Array Value) (below : List Frame) (meth : Method) (c : Code) (H : Heap) (locs : List Loc) (cells slots : Nat) (Qf : State → Prop) (ls : Array Slot), p.tables.exec = Jvm.exec → c.code = y.2.1 → fmHas ls y.2.2.1 L → W p l e R s m args below meth c H locs cells slots Qf (F0 m pc' ls st') → W p l e R s m args below meth c H locs cells slots Qf (F0 m pc ls st))
    (k : fmEv T l G d y pc' L st' M Q) : fmEv T l G d y pc L st M Q := by
  obtain ⟨o, M', hq, k⟩ := k
  refine ⟨o, M', hq, ?_⟩
  intro p e s m args below meth c H locs A rest ls hst hF hE hA hP hS hL
  exact h p e _ s m args below meth c H locs 0 0 _ ls hF.1 hF.2.1 hL (k p e s m args below meth c H locs A rest ls hst hF hE hA hP hS hL)
/-- a row that asks the method's words -/
theorem fm_roww {pc' : Nat} {st' : List Value} (h : ∀ (p : Program) (e : Env) (R : Room) (s : State) (m : MethodId) (args : Array Value) (below : List Frame) (meth : Method) (c : Code) (H : Heap) (locs : List Loc) (cells slots : Nat) (Qf : State → Prop) (ls : Array Slot) (A : Nat → Prop), fmFix p s m args meth c y → fmEnv G A s → W p l e R s m args below meth c H locs cells slots Qf (F0 m pc' ls st') → W p l e R s m args below meth c H locs cells slots Qf (F0 m pc ls st))
    (k : fmEv T l G d y pc' L st' M Q) : fmEv T l G d y pc L st M Q := by
  obtain ⟨o, M', hq, k⟩ := k
  refine ⟨o, M', hq, ?_⟩
  intro p e s m args below meth c H locs A rest ls hst hF hE hA hP hS hL
  exact h p e _ s m args below meth c H locs 0 0 _ ls A hF hE (k p e s m args below meth c H locs A rest ls hst hF hE hA hP hS hL)
theorem fm_br {pt pf : Nat} {st' : List Value} {cnd : Prop} (h : ∀ (p : Program) (e : Env) (R : Room) (s : State) (m : MethodId) (args : Array Value) (below : List Frame) (meth : Method) (c : Code) (H : Heap) (locs : List Loc) (cells slots : Nat) (Qf : State → Prop) (ls : Array Slot), p.tables.exec = Jvm.exec → c.code = y.2.1 → (cnd → W p l e R s m args below meth c H locs cells slots Qf (F0 m pt ls st')) → (¬ cnd → W p l e R s m args below meth c H locs cells slots Qf (F0 m pf ls st')) → W p l e R s m args below meth c H locs cells slots Qf (F0 m pc ls st))
    (kt : cnd → fmEv T l G d y pt L st' M Q) (kf : ¬ cnd → fmEv T l G d y pf L st' M Q) : fmEv T l G d y pc L st M Q := by
  by_cases hc : cnd
  · obtain ⟨o, M', hq, k⟩ := kt hc
    refine ⟨o, M', hq, ?_⟩
    intro p e s m args below meth c H locs A rest ls hst hF hE hA hP hS hL
    exact h p e _ s m args below meth c H locs 0 0 _ ls hF.1 hF.2.1 (fun _ => k p e s m args below meth c H locs A rest ls hst hF hE hA hP hS hL) (fun q => absurd hc q)
  · obtain ⟨o, M', hq, k⟩ := kf hc
    refine ⟨o, M', hq, ?_⟩
    intro p e s m args below meth c H locs A rest ls hst hF hE hA hP hS hL
    exact h p e _ s m args below meth c H locs 0 0 _ ls hF.1 hF.2.1 (fun q => absurd q hc) (fun _ => k p e s m args below meth c H locs A rest ls hst hF hE hA hP hS hL)
/-- a row that writes a local -/
theorem fm_rowl {pc' : Nat} {st' : List Value} {L' : List (Option Value)} (h : ∀ (p : Program) (e : Env) (R : Room) (s : State) (m : MethodId) (args : Array Value) (below : List Frame) (meth : Method) (c : Code) (H : Heap) (locs : List Loc) (cells slots : Nat) (Qf : State → Prop) (ls : Array Slot), p.tables.exec = Jvm.exec → c.code = y.2.1 → fmHas ls y.2.2.1 L → (∀ ls' : Array Slot, fmHas ls' y.2.2.1 L' → W p l e R s m args below meth c H locs cells slots Qf (F0 m pc' ls' st')) → W p l e R s m args below meth c H locs cells slots Qf (F0 m pc ls st))
    (k : fmEv T l G d y pc' L' st' M Q) : fmEv T l G d y pc L st M Q := by
  obtain ⟨o, M', hq, k⟩ := k
  refine ⟨o, M', hq, ?_⟩
  intro p e s m args below meth c H locs A rest ls hst hF hE hA hP hS hL
  exact h p e _ s m args below meth c H locs 0 0 _ ls hF.1 hF.2.1 hL (fun ls' hL' => k p e s m args below meth c H locs A rest ls' hst hF hE hA hP hS hL')
/-- fewer locals -/
theorem fm_less {L' : List (Option Value)} (hl : ∀ (i : Nat) (v : Value), L'[i]? = some (some v) → L[i]? = some (some v)) (k : fmEv T l G d y pc L' st M Q) : fmEv T l G d y pc L st M Q := by
  obtain ⟨o, M', hq, k⟩ := k
  refine ⟨o, M', hq, ?_⟩
  intro p e s m args below meth c H locs A rest ls hst hF hE hA hP hS hL
  exact k p e s m args below meth c H locs A rest ls hst hF hE hA hP hS ⟨hL.1, hL.2.1, fun i v h => hL.2.2 i v (hl i v h)⟩
theorem fm_iconst {n : Int} {v : Int32} (hv : Int32.ofInt n = v) (hdg : decode y.2.1 pc = .ok (.iconst n, 1)) (k : fmEv T l G d y (pc + 1) L (.int v :: st) M Q) : fmEv T l G d y pc L (st) M Q := fm_row (fun _ _ _ _ _ _ _ _ _ _ _ _ _ _ _ hx hb hL kk => lv_iconst hx hb hdg hv kk) k
theorem fm_bipush {n : Int} {v : Int32} (hv : (Int8.ofInt n).toInt32 = v) (hdg : decode y.2.1 pc = .ok (.bipush n, 2)) (k : fmEv T l G d y (pc + 2) L (.int v :: st) M Q) : fmEv T l G d y pc L (st) M Q := fm_row (fun _ _ _ _ _ _ _ _ _ _ _ _ _ _ _ hx hb hL kk => lv_bipush hx hb hdg hv kk) k
theorem fm_sipush {n : Int} {v : Int32} (hv : (Int16.ofInt n).toInt32 = v) (hdg : decode y.2.1 pc = .ok (.sipush n, 3)) (k : fmEv T l G d y (pc + 3) L (.int v :: st) M Q) : fmEv T l G d y pc L (st) M Q := fm_row (fun _ _ _ _ _ _ _ _ _ _ _ _ _ _ _ hx hb hL kk => lv_sipush hx hb hdg hv kk) k
theorem fm_lconst {n : Fin 2} {v : Int64} (hv : Int64.ofNat (n : Nat) = v) (hdg : decode y.2.1 pc = .ok (.lconst n, 1)) (k : fmEv T l G d y (pc + 1) L (.long v :: st) M Q) : fmEv T l G d y pc L (st) M Q := fm_row (fun _ _ _ _ _ _ _ _ _ _ _ _ _ _ _ hx hb hL kk => lv_lconst hx hb hdg hv kk) k
theorem fm_iload_n {n : Fin 4} {x : Int32} (hv : L[(n : Nat)]? = some (some (.int x))) (hdg : decode y.2.1 pc = .ok (.iload_n n, 1)) (k : fmEv T l G d y (pc + 1) L (.int x :: st) M Q) : fmEv T l G d y pc L (st) M Q := fm_row (fun _ _ _ _ _ _ _ _ _ _ _ _ _ _ _ hx hb hL kk => lv_iload_n hx hb hdg rfl (hL.2.2 _ _ hv) kk) k
theorem fm_iload {i : Nat} {x : Int32} (hv : L[i]? = some (some (.int x))) (hdg : decode y.2.1 pc = .ok (.iload i, 2)) (k : fmEv T l G d y (pc + 2) L (.int x :: st) M Q) : fmEv T l G d y pc L (st) M Q := fm_row (fun _ _ _ _ _ _ _ _ _ _ _ _ _ _ _ hx hb hL kk => lv_iload hx hb hdg (hL.2.2 _ _ hv) kk) k
theorem fm_istore_n {n : Fin 4} {x : Int32} (hn : (n : Nat) < y.2.2.1) (h2 : fmNo2 L (n : Nat) = true) (hdg : decode y.2.1 pc = .ok (.istore_n n, 1)) (k : fmEv T l G d y (pc + 1) (L.set (n : Nat) (some (.int x))) st M Q) : fmEv T l G d y pc L (.int x :: st) M Q := fm_rowl (fun _ _ _ _ _ _ _ _ _ _ _ _ _ _ _ hx hb hL kk => lv_istore_n hx hb hdg rfl hL.lv hn rfl (fun ls h => kk ls (fmHas.set1 h h2))) k
theorem fm_istore {i : Nat} {x : Int32} (hn : i < y.2.2.1) (h2 : fmNo2 L i = true) (hdg : decode y.2.1 pc = .ok (.istore i, 2)) (k : fmEv T l G d y (pc + 2) (L.set i (some (.int x))) st M Q) : fmEv T l G d y pc L (.int x :: st) M Q := fm_rowl (fun _ _ _ _ _ _ _ _ _ _ _ _ _ _ _ hx hb hL kk => lv_istore hx hb hdg hL.lv hn rfl (fun ls h => kk ls (fmHas.set1 h h2))) k
theorem fm_lload_n {n : Fin 4} {x : Int64} (hv : L[(n : Nat)]? = some (some (.long x))) (hdg : decode y.2.1 pc = .ok (.lload_n n, 1)) (k : fmEv T l G d y (pc + 1) L (.long x :: st) M Q) : fmEv T l G d y pc L (st) M Q := fm_row (fun _ _ _ _ _ _ _ _ _ _ _ _ _ _ _ hx hb hL kk => lv_lload_n hx hb hdg rfl (hL.2.2 _ _ hv) kk) k
theorem fm_lload {i : Nat} {x : Int64} (hv : L[i]? = some (some (.long x))) (hdg : decode y.2.1 pc = .ok (.lload i, 2)) (k : fmEv T l G d y (pc + 2) L (.long x :: st) M Q) : fmEv T l G d y pc L (st) M Q := fm_row (fun _ _ _ _ _ _ _ _ _ _ _ _ _ _ _ hx hb hL kk => lv_lload hx hb hdg (hL.2.2 _ _ hv) kk) k
theorem fm_lstore_n {n : Fin 4} {x : Int64} (hn : (n : Nat) + 1 < y.2.2.1) (h2 : fmNo2 L (n : Nat) = true) (hdg : decode y.2.1 pc = .ok (.lstore_n n, 1)) (k : fmEv T l G d y (pc + 1) ((L.set (n : Nat) (some (.long x))).set ((n : Nat) + 1) none) st M Q) : fmEv T l G d y pc L (.long x :: st) M Q := fm_rowl (fun _ _ _ _ _ _ _ _ _ _ _ _ _ _ _ hx hb hL kk => lv_lstore_n hx hb hdg rfl hL.lv hn rfl (fun ls h => kk ls (fmHas.set2 h h2))) k
theorem fm_lstore {i : Nat} {x : Int64} (hn : i + 1 < y.2.2.1) (h2 : fmNo2 L i = true) (hdg : decode y.2.1 pc = .ok (.lstore i, 2)) (k : fmEv T l G d y (pc + 2) ((L.set i (some (.long x))).set (i + 1) none) st M Q) : fmEv T l G d y pc L (.long x :: st) M Q := fm_rowl (fun _ _ _ _ _ _ _ _ _ _ _ _ _ _ _ hx hb hL kk => lv_lstore hx hb hdg hL.lv hn rfl (fun ls h => kk ls (fmHas.set2 h h2))) k
theorem fm_aload_n {n : Fin 4} {x : Nat} (hv : L[(n : Nat)]? = some (some (.ref x))) (hdg : decode y.2.1 pc = .ok (.aload_n n, 1)) (k : fmEv T l G d y (pc + 1) L (.ref x :: st) M Q) : fmEv T l G d y pc L (st) M Q := fm_row (fun _ _ _ _ _ _ _ _ _ _ _ _ _ _ _ hx hb hL kk => lv_aload_n hx hb hdg rfl (hL.2.2 _ _ hv) kk) k
theorem fm_aload {i : Nat} {x : Nat} (hv : L[i]? = some (some (.ref x))) (hdg : decode y.2.1 pc = .ok (.aload i, 2)) (k : fmEv T l G d y (pc + 2) L (.ref x :: st) M Q) : fmEv T l G d y pc L (st) M Q := fm_row (fun _ _ _ _ _ _ _ _ _ _ _ _ _ _ _ hx hb hL kk => lv_aload hx hb hdg (hL.2.2 _ _ hv) kk) k
theorem fm_astore_n {n : Fin 4} {x : Nat} (hn : (n : Nat) < y.2.2.1) (h2 : fmNo2 L (n : Nat) = true) (hdg : decode y.2.1 pc = .ok (.astore_n n, 1)) (k : fmEv T l G d y (pc + 1) (L.set (n : Nat) (some (.ref x))) st M Q) : fmEv T l G d y pc L (.ref x :: st) M Q := fm_rowl (fun _ _ _ _ _ _ _ _ _ _ _ _ _ _ _ hx hb hL kk => lv_astore_n hx hb hdg rfl hL.lv hn rfl (fun ls h => kk ls (fmHas.set1 h h2))) k
theorem fm_astore {i : Nat} {x : Nat} (hn : i < y.2.2.1) (h2 : fmNo2 L i = true) (hdg : decode y.2.1 pc = .ok (.astore i, 2)) (k : fmEv T l G d y (pc + 2) (L.set i (some (.ref x))) st M Q) : fmEv T l G d y pc L (.ref x :: st) M Q := fm_rowl (fun _ _ _ _ _ _ _ _ _ _ _ _ _ _ _ hx hb hL kk => lv_astore hx hb hdg hL.lv hn rfl (fun ls h => kk ls (fmHas.set1 h h2))) k
theorem fm_lvk {L : List (Option Value)} {i : Nat} {v : Value} (h : L[i]? = some (some v)) : ∃ k : Nat, (fmLs L)[k]? = some (i, v) := List.getElem?_of_mem (fmLs_mem.mpr h)
theorem fm_iinc {i : Nat} {n : Int} {x v : Int32} (hl : L[i]? = some (some (.int x))) (hv : x + Int32.ofInt n = v) (hn : i < y.2.2.1) (h2 : fmNo2 L i = true) (hdg : decode y.2.1 pc = .ok (.iinc i n, 3)) (k : fmEv T l G d y (pc + 3) (L.set i (some (.int v))) st M Q) : fmEv T l G d y pc L st M Q := by
  obtain ⟨k9, hk9⟩ := fm_lvk hl
  exact fm_rowl (fun _ _ _ _ _ _ _ _ _ _ _ _ _ _ _ hx hb hL kk => lv_iinc hx hb hdg hL.lv hk9 hv hn rfl (fun ls h => kk ls (fmHas.set1 h h2))) k
theorem fm_iadd {x z : Int32} (hdg : decode y.2.1 pc = .ok (.iadd, 1)) (k : fmEv T l G d y (pc + 1) L (.int (x + z) :: st) M Q) : fmEv T l G d y pc L (.int z :: .int x :: st) M Q := fm_row (fun _ _ _ _ _ _ _ _ _ _ _ _ _ _ _ hx hb hL kk => lv_iadd hx hb hdg kk) k
theorem fm_ladd {x z : Int64} (hdg : decode y.2.1 pc = .ok (.ladd, 1)) (k : fmEv T l G d y (pc + 1) L (.long (x + z) :: st) M Q) : fmEv T l G d y pc L (.long z :: .long x :: st) M Q := fm_row (fun _ _ _ _ _ _ _ _ _ _ _ _ _ _ _ hx hb hL kk => lv_ladd hx hb hdg kk) k
theorem fm_isub {x z : Int32} (hdg : decode y.2.1 pc = .ok (.isub, 1)) (k : fmEv T l G d y (pc + 1) L (.int (x - z) :: st) M Q) : fmEv T l G d y pc L (.int z :: .int x :: st) M Q := fm_row (fun _ _ _ _ _ _ _ _ _ _ _ _ _ _ _ hx hb hL kk => lv_isub hx hb hdg kk) k
theorem fm_lsub {x z : Int64} (hdg : decode y.2.1 pc = .ok (.lsub, 1)) (k : fmEv T l G d y (pc + 1) L (.long (x - z) :: st) M Q) : fmEv T l G d y pc L (.long z :: .long x :: st) M Q := fm_row (fun _ _ _ _ _ _ _ _ _ _ _ _ _ _ _ hx hb hL kk => lv_lsub hx hb hdg kk) k
theorem fm_imul {x z : Int32} (hdg : decode y.2.1 pc = .ok (.imul, 1)) (k : fmEv T l G d y (pc + 1) L (.int (x * z) :: st) M Q) : fmEv T l G d y pc L (.int z :: .int x :: st) M Q := fm_row (fun _ _ _ _ _ _ _ _ _ _ _ _ _ _ _ hx hb hL kk => lv_imul hx hb hdg kk) k
theorem fm_lmul {x z : Int64} (hdg : decode y.2.1 pc = .ok (.lmul, 1)) (k : fmEv T l G d y (pc + 1) L (.long (x * z) :: st) M Q) : fmEv T l G d y pc L (.long z :: .long x :: st) M Q := fm_row (fun _ _ _ _ _ _ _ _ _ _ _ _ _ _ _ hx hb hL kk => lv_lmul hx hb hdg kk) k
theorem fm_iand {x z : Int32} (hdg : decode y.2.1 pc = .ok (.iand, 1)) (k : fmEv T l G d y (pc + 1) L (.int (x &&& z) :: st) M Q) : fmEv T l G d y pc L (.int z :: .int x :: st) M Q := fm_row (fun _ _ _ _ _ _ _ _ _ _ _ _ _ _ _ hx hb hL kk => lv_iand hx hb hdg kk) k
theorem fm_land {x z : Int64} (hdg : decode y.2.1 pc = .ok (.land, 1)) (k : fmEv T l G d y (pc + 1) L (.long (x &&& z) :: st) M Q) : fmEv T l G d y pc L (.long z :: .long x :: st) M Q := fm_row (fun _ _ _ _ _ _ _ _ _ _ _ _ _ _ _ hx hb hL kk => lv_land hx hb hdg kk) k
theorem fm_ior {x z : Int32} (hdg : decode y.2.1 pc = .ok (.ior, 1)) (k : fmEv T l G d y (pc + 1) L (.int (x ||| z) :: st) M Q) : fmEv T l G d y pc L (.int z :: .int x :: st) M Q := fm_row (fun _ _ _ _ _ _ _ _ _ _ _ _ _ _ _ hx hb hL kk => lv_ior hx hb hdg kk) k
theorem fm_lor {x z : Int64} (hdg : decode y.2.1 pc = .ok (.lor, 1)) (k : fmEv T l G d y (pc + 1) L (.long (x ||| z) :: st) M Q) : fmEv T l G d y pc L (.long z :: .long x :: st) M Q := fm_row (fun _ _ _ _ _ _ _ _ _ _ _ _ _ _ _ hx hb hL kk => lv_lor hx hb hdg kk) k
theorem fm_ixor {x z : Int32} (hdg : decode y.2.1 pc = .ok (.ixor, 1)) (k : fmEv T l G d y (pc + 1) L (.int (x ^^^ z) :: st) M Q) : fmEv T l G d y pc L (.int z :: .int x :: st) M Q := fm_row (fun _ _ _ _ _ _ _ _ _ _ _ _ _ _ _ hx hb hL kk => lv_ixor hx hb hdg kk) k
theorem fm_lxor {x z : Int64} (hdg : decode y.2.1 pc = .ok (.lxor, 1)) (k : fmEv T l G d y (pc + 1) L (.long (x ^^^ z) :: st) M Q) : fmEv T l G d y pc L (.long z :: .long x :: st) M Q := fm_row (fun _ _ _ _ _ _ _ _ _ _ _ _ _ _ _ hx hb hL kk => lv_lxor hx hb hdg kk) k
theorem fm_idiv {x z : Int32} (hne : ¬ z = 0) (hdg : decode y.2.1 pc = .ok (.idiv, 1)) (k : fmEv T l G d y (pc + 1) L (.int (x / z) :: st) M Q) : fmEv T l G d y pc L (.int z :: .int x :: st) M Q := fm_row (fun _ _ _ _ _ _ _ _ _ _ _ _ _ _ _ hx hb hL kk => lv_idiv hx hb hdg hne kk) k
theorem fm_irem {x z : Int32} (hne : ¬ z = 0) (hdg : decode y.2.1 pc = .ok (.irem, 1)) (k : fmEv T l G d y (pc + 1) L (.int (x - x / z * z) :: st) M Q) : fmEv T l G d y pc L (.int z :: .int x :: st) M Q := fm_row (fun _ _ _ _ _ _ _ _ _ _ _ _ _ _ _ hx hb hL kk => lv_irem hx hb hdg hne kk) k
theorem fm_ldiv {x z : Int64} (hne : ¬ z = 0) (hdg : decode y.2.1 pc = .ok (.ldiv, 1)) (k : fmEv T l G d y (pc + 1) L (.long (x / z) :: st) M Q) : fmEv T l G d y pc L (.long z :: .long x :: st) M Q := fm_row (fun _ _ _ _ _ _ _ _ _ _ _ _ _ _ _ hx hb hL kk => lv_ldiv hx hb hdg hne kk) k
theorem fm_lrem {x z : Int64} (hne : ¬ z = 0) (hdg : decode y.2.1 pc = .ok (.lrem, 1)) (k : fmEv T l G d y (pc + 1) L (.long (x - x / z * z) :: st) M Q) : fmEv T l G d y pc L (.long z :: .long x :: st) M Q := fm_row (fun _ _ _ _ _ _ _ _ _ _ _ _ _ _ _ hx hb hL kk => lv_lrem hx hb hdg hne kk) k
theorem fm_ineg {x : Int32} (hdg : decode y.2.1 pc = .ok (.ineg, 1)) (k : fmEv T l G d y (pc + 1) L (.int (-x) :: st) M Q) : fmEv T l G d y pc L (.int x :: st) M Q := fm_row (fun _ _ _ _ _ _ _ _ _ _ _ _ _ _ _ hx hb hL kk => lv_ineg hx hb hdg kk) k
theorem fm_ishl {x z : Int32} (hdg : decode y.2.1 pc = .ok (.ishl, 1)) (k : fmEv T l G d y (pc + 1) L (.int (x <<< (z &&& 31)) :: st) M Q) : fmEv T l G d y pc L (.int z :: .int x :: st) M Q := fm_row (fun _ _ _ _ _ _ _ _ _ _ _ _ _ _ _ hx hb hL kk => lv_ishl hx hb hdg kk) k
theorem fm_ishr {x z : Int32} (hdg : decode y.2.1 pc = .ok (.ishr, 1)) (k : fmEv T l G d y (pc + 1) L (.int (x >>> (z &&& 31)) :: st) M Q) : fmEv T l G d y pc L (.int z :: .int x :: st) M Q := fm_row (fun _ _ _ _ _ _ _ _ _ _ _ _ _ _ _ hx hb hL kk => lv_ishr hx hb hdg kk) k
theorem fm_iushr {x z : Int32} (hdg : decode y.2.1 pc = .ok (.iushr, 1)) (k : fmEv T l G d y (pc + 1) L (.int ((x.toUInt32 >>> (z.toUInt32 &&& Int32.toUInt32 31)).toInt32) :: st) M Q) : fmEv T l G d y pc L (.int z :: .int x :: st) M Q := fm_row (fun _ _ _ _ _ _ _ _ _ _ _ _ _ _ _ hx hb hL kk => lv_iushr hx hb hdg rfl kk) k
theorem fm_lshl {x : Int64} {z : Int32} (hdg : decode y.2.1 pc = .ok (.lshl, 1)) (k : fmEv T l G d y (pc + 1) L (.long (x <<< (z.toInt64 &&& 63)) :: st) M Q) : fmEv T l G d y pc L (.int z :: .long x :: st) M Q := fm_row (fun _ _ _ _ _ _ _ _ _ _ _ _ _ _ _ hx hb hL kk => lv_lshl hx hb hdg rfl kk) k
theorem fm_lshr {x : Int64} {z : Int32} (hdg : decode y.2.1 pc = .ok (.lshr, 1)) (k : fmEv T l G d y (pc + 1) L (.long (x >>> (z.toInt64 &&& 63)) :: st) M Q) : fmEv T l G d y pc L (.int z :: .long x :: st) M Q := fm_row (fun _ _ _ _ _ _ _ _ _ _ _ _ _ _ _ hx hb hL kk => lv_lshr hx hb hdg rfl kk) k
theorem fm_i2l {x : Int32} (hdg : decode y.2.1 pc = .ok (.i2l, 1)) (k : fmEv T l G d y (pc + 1) L (.long x.toInt64 :: st) M Q) : fmEv T l G d y pc L (.int x :: st) M Q := fm_row (fun _ _ _ _ _ _ _ _ _ _ _ _ _ _ _ hx hb hL kk => lv_i2l hx hb hdg rfl kk) k
theorem fm_l2i {x : Int64} (hdg : decode y.2.1 pc = .ok (.l2i, 1)) (k : fmEv T l G d y (pc + 1) L (.int x.toInt32 :: st) M Q) : fmEv T l G d y pc L (.long x :: st) M Q := fm_row (fun _ _ _ _ _ _ _ _ _ _ _ _ _ _ _ hx hb hL kk => lv_l2i hx hb hdg rfl kk) k
theorem fm_i2b {x : Int32} (hdg : decode y.2.1 pc = .ok (.i2b, 1)) (k : fmEv T l G d y (pc + 1) L (.int x.toInt8.toInt32 :: st) M Q) : fmEv T l G d y pc L (.int x :: st) M Q := fm_row (fun _ _ _ _ _ _ _ _ _ _ _ _ _ _ _ hx hb hL kk => lv_i2b hx hb hdg rfl kk) k
theorem fm_lcmp {x z : Int64} (hdg : decode y.2.1 pc = .ok (.lcmp, 1)) (k : fmEv T l G d y (pc + 1) L (.int (lg_cmp x z) :: st) M Q) : fmEv T l G d y pc L (.long z :: .long x :: st) M Q := fm_row (fun _ _ _ _ _ _ _ _ _ _ _ _ _ _ _ hx hb hL kk => W.lcmp hx hb hdg kk) k
theorem fm_dup {v : Value} (hc : v.category = 1) (hdg : decode y.2.1 pc = .ok (.dup, 1)) (k : fmEv T l G d y (pc + 1) L (v :: v :: st) M Q) : fmEv T l G d y pc L (v :: st) M Q := fm_row (fun _ _ _ _ _ _ _ _ _ _ _ _ _ _ _ hx hb hL kk => lv_dup hx hb hdg hc kk) k
theorem fm_dup2 {v u : Value} (hc : v.category = 1) (hc2 : u.category = 1) (hdg : decode y.2.1 pc = .ok (.dup2, 1)) (k : fmEv T l G d y (pc + 1) L (v :: u :: v :: u :: st) M Q) : fmEv T l G d y pc L (v :: u :: st) M Q := fm_row (fun _ _ _ _ _ _ _ _ _ _ _ _ _ _ _ hx hb hL kk => lv_dup2_11 hx hb hdg hc hc2 kk) k
theorem fm_dup2L {v : Value} (hc : v.category = 2) (hdg : decode y.2.1 pc = .ok (.dup2, 1)) (k : fmEv T l G d y (pc + 1) L (v :: v :: st) M Q) : fmEv T l G d y pc L (v :: st) M Q := fm_row (fun _ _ _ _ _ _ _ _ _ _ _ _ _ _ _ hx hb hL kk => lv_dup2_2 hx hb hdg hc kk) k
theorem fm_dup_x1 {v u : Value} (hc : v.category = 1) (hc2 : u.category = 1) (hdg : decode y.2.1 pc = .ok (.dup_x1, 1)) (k : fmEv T l G d y (pc + 1) L (v :: u :: v :: st) M Q) : fmEv T l G d y pc L (v :: u :: st) M Q := fm_row (fun _ _ _ _ _ _ _ _ _ _ _ _ _ _ _ hx hb hL kk => lv_dup_x1 hx hb hdg hc hc2 kk) k
theorem fm_pop {v : Value} (hc : v.category = 1) (hdg : decode y.2.1 pc = .ok (.pop, 1)) (k : fmEv T l G d y (pc + 1) L (st) M Q) : fmEv T l G d y pc L (v :: st) M Q := fm_row (fun _ _ _ _ _ _ _ _ _ _ _ _ _ _ _ hx hb hL kk => lv_pop hx hb hdg hc kk) k
theorem fm_if_eq {x : Int32} {off : Int} (tgt : Nat) (ht : (pc : Int) + off = (tgt : Int)) (hdg : decode y.2.1 pc = .ok (.ifCond .eq off, 3)) (kt : x = 0 → fmEv T l G d y tgt L st M Q) (kf : ¬ (x = 0) → fmEv T l G d y (pc + 3) L st M Q) : fmEv T l G d y pc L (.int x :: st) M Q := fm_br (fun _ _ _ _ _ _ _ _ _ _ _ _ _ _ _ hx hb k1 k2 => lv_if_eq hx hb hdg ht k1 k2) kt kf
theorem fm_icmp_eq {x z : Int32} {off : Int} (tgt : Nat) (ht : (pc : Int) + off = (tgt : Int)) (hdg : decode y.2.1 pc = .ok (.if_icmp .eq off, 3)) (kt : x = z → fmEv T l G d y tgt L st M Q) (kf : ¬ (x = z) → fmEv T l G d y (pc + 3) L st M Q) : fmEv T l G d y pc L (.int z :: .int x :: st) M Q := fm_br (fun _ _ _ _ _ _ _ _ _ _ _ _ _ _ _ hx hb k1 k2 => lv_icmp_eq hx hb hdg ht k1 k2) kt kf
theorem fm_if_lt {x : Int32} {off : Int} (tgt : Nat) (ht : (pc : Int) + off = (tgt : Int)) (hdg : decode y.2.1 pc = .ok (.ifCond .lt off, 3)) (kt : x < 0 → fmEv T l G d y tgt L st M Q) (kf : ¬ (x < 0) → fmEv T l G d y (pc + 3) L st M Q) : fmEv T l G d y pc L (.int x :: st) M Q := fm_br (fun _ _ _ _ _ _ _ _ _ _ _ _ _ _ _ hx hb k1 k2 => lv_if_lt hx hb hdg ht k1 k2) kt kf
theorem fm_icmp_lt {x z : Int32} {off : Int} (tgt : Nat) (ht : (pc : Int) + off = (tgt : Int)) (hdg : decode y.2.1 pc = .ok (.if_icmp .lt off, 3)) (kt : x < z → fmEv T l G d y tgt L st M Q) (kf : ¬ (x < z) → fmEv T l G d y (pc + 3) L st M Q) : fmEv T l G d y pc L (.int z :: .int x :: st) M Q := fm_br (fun _ _ _ _ _ _ _ _ _ _ _ _ _ _ _ hx hb k1 k2 => lv_icmp_lt hx hb hdg ht k1 k2) kt kf
theorem fm_if_ge {x : Int32} {off : Int} (tgt : Nat) (ht : (pc : Int) + off = (tgt : Int)) (hdg : decode y.2.1 pc = .ok (.ifCond .ge off, 3)) (kt : 0 ≤ x → fmEv T l G d y tgt L st M Q) (kf : ¬ (0 ≤ x) → fmEv T l G d y (pc + 3) L st M Q) : fmEv T l G d y pc L (.int x :: st) M Q := fm_br (fun _ _ _ _ _ _ _ _ _ _ _ _ _ _ _ hx hb k1 k2 => lv_if_ge hx hb hdg ht k1 k2) kt kf
theorem fm_icmp_ge {x z : Int32} {off : Int} (tgt : Nat) (ht : (pc : Int) + off = (tgt : Int)) (hdg : decode y.2.1 pc = .ok (.if_icmp .ge off, 3)) (kt : z ≤ x → fmEv T l G d y tgt L st M Q) (kf : ¬ (z ≤ x) → fmEv T l G d y (pc + 3) L st M Q) : fmEv T l G d y pc L (.int z :: .int x :: st) M Q := fm_br (fun _ _ _ _ _ _ _ _ _ _ _ _ _ _ _ hx hb k1 k2 => lv_icmp_ge hx hb hdg ht k1 k2) kt kf
theorem fm_if_gt {x : Int32} {off : Int} (tgt : Nat) (ht : (pc : Int) + off = (tgt : Int)) (hdg : decode y.2.1 pc = .ok (.ifCond .gt off, 3)) (kt : 0 < x → fmEv T l G d y tgt L st M Q) (kf : ¬ (0 < x) → fmEv T l G d y (pc + 3) L st M Q) : fmEv T l G d y pc L (.int x :: st) M Q := fm_br (fun _ _ _ _ _ _ _ _ _ _ _ _ _ _ _ hx hb k1 k2 => lv_if_gt hx hb hdg ht k1 k2) kt kf
theorem fm_icmp_gt {x z : Int32} {off : Int} (tgt : Nat) (ht : (pc : Int) + off = (tgt : Int)) (hdg : decode y.2.1 pc = .ok (.if_icmp .gt off, 3)) (kt : z < x → fmEv T l G d y tgt L st M Q) (kf : ¬ (z < x) → fmEv T l G d y (pc + 3) L st M Q) : fmEv T l G d y pc L (.int z :: .int x :: st) M Q := fm_br (fun _ _ _ _ _ _ _ _ _ _ _ _ _ _ _ hx hb k1 k2 => lv_icmp_gt hx hb hdg ht k1 k2) kt kf
theorem fm_if_le {x : Int32} {off : Int} (tgt : Nat) (ht : (pc : Int) + off = (tgt : Int)) (hdg : decode y.2.1 pc = .ok (.ifCond .le off, 3)) (kt : x ≤ 0 → fmEv T l G d y tgt L st M Q) (kf : ¬ (x ≤ 0) → fmEv T l G d y (pc + 3) L st M Q) : fmEv T l G d y pc L (.int x :: st) M Q := fm_br (fun _ _ _ _ _ _ _ _ _ _ _ _ _ _ _ hx hb k1 k2 => lv_if_le hx hb hdg ht k1 k2) kt kf
theorem fm_icmp_le {x z : Int32} {off : Int} (tgt : Nat) (ht : (pc : Int) + off = (tgt : Int)) (hdg : decode y.2.1 pc = .ok (.if_icmp .le off, 3)) (kt : x ≤ z → fmEv T l G d y tgt L st M Q) (kf : ¬ (x ≤ z) → fmEv T l G d y (pc + 3) L st M Q) : fmEv T l G d y pc L (.int z :: .int x :: st) M Q := fm_br (fun _ _ _ _ _ _ _ _ _ _ _ _ _ _ _ hx hb k1 k2 => lv_icmp_le hx hb hdg ht k1 k2) kt kf
theorem fm_if_ne {x : Int32} {off : Int} (tgt : Nat) (ht : (pc : Int) + off = (tgt : Int)) (hdg : decode y.2.1 pc = .ok (.ifCond .ne off, 3)) (kt : ¬ x = 0 → fmEv T l G d y tgt L st M Q) (kf : x = 0 → fmEv T l G d y (pc + 3) L st M Q) : fmEv T l G d y pc L (.int x :: st) M Q := fm_br (fun _ _ _ _ _ _ _ _ _ _ _ _ _ _ _ hx hb k1 k2 => lv_if_ne hx hb hdg ht k2 k1) kf kt
theorem fm_icmp_ne {x z : Int32} {off : Int} (tgt : Nat) (ht : (pc : Int) + off = (tgt : Int)) (hdg : decode y.2.1 pc = .ok (.if_icmp .ne off, 3)) (kt : ¬ x = z → fmEv T l G d y tgt L st M Q) (kf : x = z → fmEv T l G d y (pc + 3) L st M Q) : fmEv T l G d y pc L (.int z :: .int x :: st) M Q := fm_br (fun _ _ _ _ _ _ _ _ _ _ _ _ _ _ _ hx hb k1 k2 => lv_icmp_ne hx hb hdg ht k2 k1) kf kt
theorem fm_goto {off : Int} (tgt : Nat) (ht : (pc : Int) + off = (tgt : Int)) (hdg : decode y.2.1 pc = .ok (.goto off, 3)) (k : fmEv T l G d y tgt L st M Q) : fmEv T l G d y pc L st M Q := fm_row (fun _ _ _ _ _ _ _ _ _ _ _ _ _ _ _ hx hb hL kk => lv_goto hx hb hdg ht kk) k
end FmRows
end
-- P 06
section
-- ROWS THAT READ AND WRITE THE MEMORY, AND CALLS
section FmMem
variable {T : fmT} {l : Launch} {G : fmG} {d : Nat} {y : fmY} {pc : Nat} {L : List (Option Value)} {st : List Value} {M : fmM} {Q : fmR → fmM → Prop}
theorem fmL_obj {rest : va_W} {k ci : Nat} (hk : k < T.1) (hkd : T.2.1 k = ci + 6) : (fmL T G M ++ rest)[k]? = some (G.1 k, .inr (ci, (List.range (T.2.2.1 k)).map (fun j => fmVal T G M k j (fmTy ci j)))) := by
  rw [fmL_at hk]
  simp only [fmEnt, hkd]
theorem fmL_int {rest : va_W} {k : Nat} (hk : k < T.1) (hkd : T.2.1 k = 0) : (fmL T G M ++ rest)[k]? = some (G.1 k, .inl (G.2.2.1 0, T.2.2.1 k, .inl (M.1 k))) := by
  rw [fmL_at hk]
  simp only [fmEnt, hkd]
theorem fmL_byte {rest : va_W} {k : Nat} (hk : k < T.1) (hkd : T.2.1 k = 2) : (fmL T G M ++ rest)[k]? = some (G.1 k, .inl (G.2.2.1 2, T.2.2.1 k, .inl (M.1 k))) := by
  rw [fmL_at hk]
  simp only [fmEnt, hkd]
theorem fmL_long {rest : va_W} {k : Nat} (hk : k < T.1) (hkd : T.2.1 k = 1) : (fmL T G M ++ rest)[k]? = some (G.1 k, .inl (G.2.2.1 1, T.2.2.1 k, .inr (.inl (M.2 k)))) := by
  rw [fmL_at hk]
  simp only [fmEnt, hkd]
theorem fm_get {k j ci idx : Nat} (hf : fmFl y.1.cls idx ci j) (hk : k < T.1) (hkd : T.2.1 k = ci + 6) (hj : j < T.2.2.1 k) (hdg : decode y.2.1 pc = .ok (.getfield idx, 3)) (kk : fmEv T l G d y (pc + 3) L (fmVal T G M k j (fmTy ci j) :: st) M Q) : fmEv T l G d y pc L (.ref (G.1 k) :: st) M Q := by
  obtain ⟨o, M', hq, kk⟩ := kk
  refine ⟨o, M', hq, ?_⟩
  intro p e s m args below meth c H locs A rest ls hst hF hE hA hP hS hL
  obtain ⟨r, hcl, hjr, hln⟩ := hf
  have hts := hF.2.2.2.2.2.1
  refine va_get (C := r.1) (T := r.2.1) (N := r.2.2) hF.1 hF.2.1 hts (fun w h => List.mem_cons_of_mem _ (hcl.2.1 w h)) hF.2.2.2.2.1 hE.1 hP.1 k (fmL_obj hk hkd) hcl.1 j hjr (hts _ (List.mem_cons_of_mem _ hln)) (fun _ h => h) (v := fmVal T G M k j (fmTy ci j)) ?_ hdg (kk p e s m args below meth c H locs A rest ls hst hF hE hA hP hS hL)
  simp [hj]
theorem fm_getI {k j ci idx : Nat} (hf : fmFl y.1.cls idx ci j) (hk : k < T.1) (hkd : T.2.1 k = ci + 6) (hj : j < T.2.2.1 k) (hty : fmTy ci j = .int) (hdg : decode y.2.1 pc = .ok (.getfield idx, 3)) (kk : fmEv T l G d y (pc + 3) L (.int (M.1 k j) :: st) M Q) : fmEv T l G d y pc L (.ref (G.1 k) :: st) M Q := fm_get hf hk hkd hj hdg (by rw [hty]; exact kk)
theorem fm_getJ {k j ci idx : Nat} (hf : fmFl y.1.cls idx ci j) (hk : k < T.1) (hkd : T.2.1 k = ci + 6) (hj : j < T.2.2.1 k) (hty : fmTy ci j = .long) (hdg : decode y.2.1 pc = .ok (.getfield idx, 3)) (kk : fmEv T l G d y (pc + 3) L (.long (M.2 k j) :: st) M Q) : fmEv T l G d y pc L (.ref (G.1 k) :: st) M Q := fm_get hf hk hkd hj hdg (by rw [hty]; exact kk)
theorem fm_getR {k j ci idx : Nat} (r : Nat) (hr : T.2.2.2 k j = r) (hf : fmFl y.1.cls idx ci j) (hk : k < T.1) (hkd : T.2.1 k = ci + 6) (hj : j < T.2.2.1 k) (hty : fmTy ci j ≠ .int ∧ fmTy ci j ≠ .long) (hdg : decode y.2.1 pc = .ok (.getfield idx, 3)) (kk : fmEv T l G d y (pc + 3) L (.ref (G.1 r) :: st) M Q) : fmEv T l G d y pc L (.ref (G.1 k) :: st) M Q := by
  refine fm_get hf hk hkd hj hdg ?_
  have e : fmVal T G M k j (fmTy ci j) = .ref (G.1 r) := by
    subst hr
    unfold fmVal
    split
    · rename_i h; exact absurd h hty.1
    · rename_i h; exact absurd h hty.2
    · rfl
  rw [e]
  exact kk
theorem fm_put {k j ci idx : Nat} {v : Value} {M1 : fmM} (hf : fmFl y.1.cls idx ci j) (hk : k < T.1) (hkd : T.2.1 k = ci + 6) (hj : j < T.2.2.1 k) (hfin : fmFin ci j = false) (hn : narrow (fmTy ci j) v = v) (hfit : fits (fmTy ci j) v = true) (h1 : ∀ k', k' ≠ k → fmEnt T G M1 k' = fmEnt T G M k') (h2 : fmEnt T G M1 k = .inr (ci, ((List.range (T.2.2.1 k)).map (fun j => fmVal T G M k j (fmTy ci j))).set j v)) (hdg : decode y.2.1 pc = .ok (.putfield idx, 3))
    (kk : fmEv T l G d y (pc + 3) L st M1 Q) : fmEv T l G d y pc L (v :: .ref (G.1 k) :: st) M Q := by
  obtain ⟨o, M', hq, kk⟩ := kk
  refine ⟨o, M', hq, ?_⟩
  intro p e s m args below meth c H locs A rest ls hst hF hE hA hP hS hL
  obtain ⟨r, hcl, hjr, hln⟩ := hf
  have hts := hF.2.2.2.2.2.1
  have hfr : (r.2.1 j).2.2.2 = false := by
    unfold fmFin at hfin
    rw [hcl.1] at hfin
    exact hfin
  refine va_put (C := r.1) (T := r.2.1) (N := r.2.2) hF.1 hF.2.1 hts (fun w h => List.mem_cons_of_mem _ (hcl.2.1 w h)) (fmTy ci) hcl.2.2.1 hcl.2.2.2 hF.2.2.2.2.1 hE.1 hP.1 hP.2 hS k (fmL_obj hk hkd) hcl.1 j hjr (hts _ (List.mem_cons_of_mem _ hln)) (fun _ h => h) hfr (hcl.2.2.1 j hjr) hn hfit (by simp [hj]) hdg (fun H1 locs1 hP1 hD1 hS1 => ?_)
  rw [← h2, fmL_set hk h1] at hP1 hD1
  exact kk p e s m args below meth c H1 locs1 A rest ls hst hF hE hA ⟨hP1, hD1⟩ hS1 hL
theorem fm_putI {k j ci idx : Nat} {x : Int32} (hf : fmFl y.1.cls idx ci j) (hk : k < T.1) (hkd : T.2.1 k = ci + 6) (hj : j < T.2.2.1 k) (hfin : fmFin ci j = false) (hty : fmTy ci j = .int) (hdg : decode y.2.1 pc = .ok (.putfield idx, 3)) (kk : fmEv T l G d y (pc + 3) L st (fmI M k j x) Q) : fmEv T l G d y pc L (.int x :: .ref (G.1 k) :: st) M Q := fm_put hf hk hkd hj hfin (by rw [hty]; rfl) (by rw [hty]; rfl) fmEnt_I (fmEnt_Iobj hkd hj hty) hdg kk
theorem fm_putJ {k j ci idx : Nat} {x : Int64} (hf : fmFl y.1.cls idx ci j) (hk : k < T.1) (hkd : T.2.1 k = ci + 6) (hj : j < T.2.2.1 k) (hfin : fmFin ci j = false) (hty : fmTy ci j = .long) (hdg : decode y.2.1 pc = .ok (.putfield idx, 3)) (kk : fmEv T l G d y (pc + 3) L st (fmJ M k j x) Q) : fmEv T l G d y pc L (.long x :: .ref (G.1 k) :: st) M Q := fm_put hf hk hkd hj hfin (by rw [hty]; rfl) (by rw [hty]; rfl) fmEnt_J (fmEnt_Jobj hkd hj hty) hdg kk
theorem fm_iald {k n : Nat} {i : Int32} (hk : k < T.1) (hkd : T.2.1 k = 0) (hln : T.2.2.1 k = n) (hin : vp_in i n) (hdg : decode y.2.1 pc = .ok (.iaload, 1)) (kk : fmEv T l G d y (pc + 1) L (.int (M.1 k i.toNatClampNeg) :: st) M Q) : fmEv T l G d y pc L (.int i :: .ref (G.1 k) :: st) M Q := by
  obtain ⟨o, M', hq, kk⟩ := kk
  subst hln
  refine ⟨o, M', hq, ?_⟩
  intro p e s m args below meth c H locs A rest ls hst hF hE hA hP hS hL
  exact va_iald hF.1 hF.2.1 hE.1 hP.1 k 0 (fmL_int hk hkd) rfl hin hdg (kk p e s m args below meth c H locs A rest ls hst hF hE hA hP hS hL)
theorem fm_bald {k n : Nat} {i : Int32} (hk : k < T.1) (hkd : T.2.1 k = 2) (hln : T.2.2.1 k = n) (hin : vp_in i n) (hdg : decode y.2.1 pc = .ok (.baload, 1)) (kk : fmEv T l G d y (pc + 1) L (.int (M.1 k i.toNatClampNeg) :: st) M Q) : fmEv T l G d y pc L (.int i :: .ref (G.1 k) :: st) M Q := by
  obtain ⟨o, M', hq, kk⟩ := kk
  subst hln
  refine ⟨o, M', hq, ?_⟩
  intro p e s m args below meth c H locs A rest ls hst hF hE hA hP hS hL
  exact va_bald hF.1 hF.2.1 hE.1 hP.1 k 2 (fmL_byte hk hkd) rfl hin hdg (kk p e s m args below meth c H locs A rest ls hst hF hE hA hP hS hL)
theorem fm_lald {k n : Nat} {i : Int32} (hk : k < T.1) (hkd : T.2.1 k = 1) (hln : T.2.2.1 k = n) (hin : vp_in i n) (hdg : decode y.2.1 pc = .ok (.laload, 1)) (kk : fmEv T l G d y (pc + 1) L (.long (M.2 k i.toNatClampNeg) :: st) M Q) : fmEv T l G d y pc L (.int i :: .ref (G.1 k) :: st) M Q := by
  obtain ⟨o, M', hq, kk⟩ := kk
  subst hln
  refine ⟨o, M', hq, ?_⟩
  intro p e s m args below meth c H locs A rest ls hst hF hE hA hP hS hL
  exact va_lald hF.1 hF.2.1 hE.1 hP.1 k 1 (fmL_long hk hkd) rfl hin hdg (kk p e s m args below meth c H locs A rest ls hst hF hE hA hP hS hL)
theorem fm_iast {k n : Nat} {i x : Int32} (hk : k < T.1) (hkd : T.2.1 k = 0) (hln : T.2.2.1 k = n) (hin : vp_in i n) (hdg : decode y.2.1 pc = .ok (.iastore, 1)) (kk : fmEv T l G d y (pc + 1) L st (fmI M k i.toNatClampNeg x) Q) : fmEv T l G d y pc L (.int x :: .int i :: .ref (G.1 k) :: st) M Q := by
  obtain ⟨o, M', hq, kk⟩ := kk
  subst hln
  refine ⟨o, M', hq, ?_⟩
  intro p e s m args below meth c H locs A rest ls hst hF hE hA hP hS hL
  refine va_iast hF.1 hF.2.1 hE.1 hP.1 hP.2 hS k 0 (fmL_int hk hkd) rfl hin hdg (fun H1 locs1 hP1 hD1 hS1 => ?_)
  rw [← fmEnt_Iarr hkd, fmL_set hk fmEnt_I] at hP1 hD1
  exact kk p e s m args below meth c H1 locs1 A rest ls hst hF hE hA ⟨hP1, hD1⟩ hS1 hL
theorem fm_bast {k n : Nat} {i x : Int32} (hk : k < T.1) (hkd : T.2.1 k = 2) (hln : T.2.2.1 k = n) (hin : vp_in i n) (hdg : decode y.2.1 pc = .ok (.bastore, 1)) (kk : fmEv T l G d y (pc + 1) L st (fmI M k i.toNatClampNeg (vp_nar .byte x)) Q) : fmEv T l G d y pc L (.int x :: .int i :: .ref (G.1 k) :: st) M Q := by
  obtain ⟨o, M', hq, kk⟩ := kk
  subst hln
  refine ⟨o, M', hq, ?_⟩
  intro p e s m args below meth c H locs A rest ls hst hF hE hA hP hS hL
  refine va_bast hF.1 hF.2.1 hE.1 hP.1 hP.2 hS k 2 (fmL_byte hk hkd) rfl hin hdg (fun H1 locs1 hP1 hD1 hS1 => ?_)
  rw [← fmEnt_Ibyte hkd, fmL_set hk fmEnt_I] at hP1 hD1
  exact kk p e s m args below meth c H1 locs1 A rest ls hst hF hE hA ⟨hP1, hD1⟩ hS1 hL
theorem fm_last {k n : Nat} {i : Int32} {x : Int64} (hk : k < T.1) (hkd : T.2.1 k = 1) (hln : T.2.2.1 k = n) (hin : vp_in i n) (hdg : decode y.2.1 pc = .ok (.lastore, 1)) (kk : fmEv T l G d y (pc + 1) L st (fmJ M k i.toNatClampNeg x) Q) : fmEv T l G d y pc L (.long x :: .int i :: .ref (G.1 k) :: st) M Q := by
  obtain ⟨o, M', hq, kk⟩ := kk
  subst hln
  refine ⟨o, M', hq, ?_⟩
  intro p e s m args below meth c H locs A rest ls hst hF hE hA hP hS hL
  refine va_last hF.1 hF.2.1 hE.1 hP.1 hP.2 hS k 1 (fmL_long hk hkd) rfl hin hdg (fun H1 locs1 hP1 hD1 hS1 => ?_)
  rw [← fmEnt_Jarr hkd, fmL_set hk fmEnt_J] at hP1 hD1
  exact kk p e s m args below meth c H1 locs1 A rest ls hst hF hE hA ⟨hP1, hD1⟩ hS1 hL
/-- an array of references, of kind 3, 4 or 5 -/
theorem fm_aald {k n kd r : Nat} {ty : FieldType} {i : Int32} (hk : k < T.1) (hkd : T.2.1 k = kd) (hty : (kd = 3 ∧ ty = .object "LifeDrawer$Shelf") ∨ (kd = 4 ∧ ty = .object "LifeDrawer$State") ∨ (kd = 5 ∧ ty = .array .int)) (hln : T.2.2.1 k = n) (hin : vp_in i n) (hr : T.2.2.2 k i.toNatClampNeg = r) (hdg : decode y.2.1 pc = .ok (.aaload, 1)) (kk : fmEv T l G d y (pc + 1) L (.ref (G.1 r) :: st) M Q) : fmEv T l G d y pc L (.int i :: .ref (G.1 k) :: st) M Q := by
  obtain ⟨o, M', hq, kk⟩ := kk
  subst hln
  subst hr
  refine ⟨o, M', hq, ?_⟩
  intro p e s m args below meth c H locs A rest ls hst hF hE hA hP hS hL
  have hlt : i.toNatClampNeg < T.2.2.1 k := Nat.not_le.mp fun q => hin (Or.inr q)
  have e1 : va_rf (fmRow T G k i.toNatClampNeg) = .ref (G.1 (T.2.2.2 k i.toNatClampNeg)) := by simp [fmRow, hlt, va_rf]
  have h1 : (fmL T G M ++ rest)[k]? = some (G.1 k, .inl (G.2.2.1 kd, T.2.2.1 k, .inr (.inr (.inr (.inr (fmRow T G k)))))) := by
    rw [fmL_at hk]
    rcases hty with ⟨rfl, -⟩ | ⟨rfl, -⟩ | ⟨rfl, -⟩ <;> simp only [fmEnt, hkd]
  have h2 : (fmTys G)[kd]? = some (G.2.2.1 kd, ty) := by
    rcases hty with ⟨rfl, rfl⟩ | ⟨rfl, rfl⟩ | ⟨rfl, rfl⟩ <;> rfl
  have K := kk p e s m args below meth c H locs A rest ls hst hF hE hA hP hS hL
  rw [← e1] at K
  exact W.aald (v := va_rf (fmRow T G k i.toNatClampNeg)) (ty := ty) hF.1 hF.2.1 (hP.1 k _ h1) ((hE.1.2 kd _ h2).1 (T.2.2.1 k) (fun j => va_rf (fmRow T G k j))) (by rcases hty with ⟨-, rfl⟩ | ⟨-, rfl⟩ | ⟨-, rfl⟩ <;> rfl) (fun q => by cases q) (by show ¬ (i < 0 ∨ (arrV _ _ _).slots.size ≤ _); rw [arrV_size]; exact hin) (by show (arrV _ _ _).slots[_]? = _; rw [arrV_read _ _ hlt]) rfl rfl hdg K
theorem fm_alenI {k n : Nat} {v : Int32} (hk : k < T.1) (hkd : T.2.1 k = 0) (hln : T.2.2.1 k = n) (hv : Int32.ofNat n = v) (hdg : decode y.2.1 pc = .ok (.arraylength, 1)) (kk : fmEv T l G d y (pc + 1) L (.int v :: st) M Q) : fmEv T l G d y pc L (.ref (G.1 k) :: st) M Q := by
  obtain ⟨o, M', hq, kk⟩ := kk
  subst hln
  refine ⟨o, M', hq, ?_⟩
  intro p e s m args below meth c H locs A rest ls hst hF hE hA hP hS hL
  exact va_alen hF.1 hF.2.1 hE.1 hP.1 k 0 (fmL_int hk hkd) (ty := .int) rfl hv hdg (kk p e s m args below meth c H locs A rest ls hst hF hE hA hP hS hL)
theorem fm_alenJ {k n : Nat} {v : Int32} (hk : k < T.1) (hkd : T.2.1 k = 1) (hln : T.2.2.1 k = n) (hv : Int32.ofNat n = v) (hdg : decode y.2.1 pc = .ok (.arraylength, 1)) (kk : fmEv T l G d y (pc + 1) L (.int v :: st) M Q) : fmEv T l G d y pc L (.ref (G.1 k) :: st) M Q := by
  obtain ⟨o, M', hq, kk⟩ := kk
  subst hln
  refine ⟨o, M', hq, ?_⟩
  intro p e s m args below meth c H locs A rest ls hst hF hE hA hP hS hL
  exact va_alen hF.1 hF.2.1 hE.1 hP.1 k 1 (fmL_long hk hkd) (ty := .long) rfl hv hdg (kk p e s m args below meth c H locs A rest ls hst hF hE hA hP hS hL)
/-- System.arraycopy of ints -/
theorem fm_copy {k0 k1 n0 n1 idx : Nat} {sp dp n : Int32} (hl : Cond.methodLink y.1.cls idx arraycopyName ∈ fmWs) (hw : Cond.native arraycopyName ∈ fmWs ∧ Cond.static arraycopyName ∈ fmWs ∧ Cond.initialized "java/lang/System" ∈ fmWs) (hk0 : k0 < T.1) (hd0 : T.2.1 k0 = 0) (hn0 : T.2.2.1 k0 = n0) (hk1 : k1 < T.1) (hd1 : T.2.1 k1 = 0) (hn1 : T.2.2.1 k1 = n1) (h1 : ¬ sp < 0) (h2 : ¬ dp < 0) (h3 : ¬ n < 0) (h4 : sp.toNatClampNeg + n.toNatClampNeg ≤ n0) (h5 : dp.toNatClampNeg + n.toNatClampNeg ≤ n1) (hc : (st.map fun v => v.category).sum ≤ 60) (hdg : decode y.2.1 pc = .ok (.invokestatic idx, 3))
    (kk : fmEv T l G d y (pc + 3) L st (fmA M k1 (va_cpy (M.1 k0) (M.1 k1) sp.toNatClampNeg dp.toNatClampNeg n.toNatClampNeg)) Q) : fmEv T l G d y pc L (.int n :: .int dp :: .ref (G.1 k1) :: .int sp :: .ref (G.1 k0) :: st) M Q := by
  obtain ⟨o, M', hq, kk⟩ := kk
  subst hn0
  subst hn1
  refine ⟨o, M', hq, ?_⟩
  intro p e s m args below meth c H locs A rest ls hst hF hE hA hP hS hL
  have hts := hF.2.2.2.2.2.1
  have ok : ∀ w ∈ fmWs, w.before args s = true := fun w h => hts w (List.mem_cons_of_mem _ h)
  have hfr : 1 ≤ (fmRm d o).frames := by show 1 ≤ d + 10; omega
  have hlo : (st.map fun v => v.category).sum + (nativeFrameWords "java/lang/System" "arraycopy" 5 + 11) ≤ (fmRm d o).locals := by
    have h9 : nativeFrameWords "java/lang/System" "arraycopy" 5 ≤ 60 := by decide +kernel
    show _ ≤ 60 * d + 200
    omega
  refine va_copyi hF.1 hF.2.1 (by rw [hF.2.2.1, hL.1]) hF.2.2.2.2.1 (ok _ hl) (ok _ hw.1) (ok _ hw.2.1) (ok _ hw.2.2) hE.1 hP.1 hP.2 hS k0 k1 0 0 (ty := .int) (fmL_int hk0 hd0) (fmL_int hk1 hd1) rfl rfl rfl h1 h2 h3 h4 h5 (fun i _ => rfl) hfr hlo hdg (fun H1 locs1 hP1 hD1 hS1 => ?_)
  have e1 : fmEnt T G (fmA M k1 (va_cpy (M.1 k0) (M.1 k1) sp.toNatClampNeg dp.toNatClampNeg n.toNatClampNeg)) k1 = .inl (G.2.2.1 0, T.2.2.1 k1, .inl (va_cpy (M.1 k0) (M.1 k1) sp.toNatClampNeg dp.toNatClampNeg n.toNatClampNeg)) := by
    simp [fmEnt, hd1, fmA]
  rw [← e1, fmL_set hk1 fmEnt_A] at hP1 hD1
  exact kk p e s m args below meth c H1 locs1 A rest ls hst hF hE hA ⟨hP1, hD1⟩ hS1 hL
-- ENDS
theorem fm_ireturn {v : Int32} (hr : y.2.2.2 = some .int) (hdg : decode y.2.1 pc = .ok (.ireturn, 1)) (hq : Q (.inl (some (.int v))) M) : fmEv T l G d y pc L [.int v] M Q := by
  refine ⟨_, _, hq, ?_⟩
  intro p e s m args below meth c H locs A rest ls hst hF hE hA hP hS hL
  have hlocks := hF.2.2.2.2.2.2.1
  exact vx_ret (W.iret hF.1 hF.2.1 (hF.2.2.2.1.trans hr) (fun t ht hW => ⟨⟨_, rfl, rfl⟩, by rw [ht]; exact hP, hS.F ht⟩) hS.2.2 hdg)
theorem fm_zreturn {v : Int32} (hr : y.2.2.2 = some .boolean) (hv : narrow .boolean (.int v) = .int v) (hdg : decode y.2.1 pc = .ok (.ireturn, 1)) (hq : Q (.inl (some (.int v))) M) : fmEv T l G d y pc L [.int v] M Q := by
  refine ⟨_, _, hq, ?_⟩
  intro p e s m args below meth c H locs A rest ls hst hF hE hA hP hS hL
  have hlocks := hF.2.2.2.2.2.2.1
  exact vx_ret (W.zret (ty := .boolean) hF.1 hF.2.1 (hF.2.2.2.1.trans hr) hv (fun t ht hW => ⟨⟨_, rfl, rfl⟩, by rw [ht]; exact hP, hS.F ht⟩) hS.2.2 hdg)
theorem fm_lreturn {v : Int64} (hr : y.2.2.2 = some .long) (hdg : decode y.2.1 pc = .ok (.lreturn, 1)) (hq : Q (.inl (some (.long v))) M) : fmEv T l G d y pc L [.long v] M Q := by
  refine ⟨_, _, hq, ?_⟩
  intro p e s m args below meth c H locs A rest ls hst hF hE hA hP hS hL
  have hlocks := hF.2.2.2.2.2.2.1
  exact vx_ret (W.lret hF.1 hF.2.1 (hF.2.2.2.1.trans hr) (fun t ht hW => ⟨⟨_, rfl, rfl⟩, by rw [ht]; exact hP, hS.F ht⟩) hS.2.2 hdg)
theorem fm_return (hr : y.2.2.2 = none) (hdg : decode y.2.1 pc = .ok (.return_, 1)) (hq : Q (.inl none) M) : fmEv T l G d y pc L [] M Q := by
  refine ⟨_, _, hq, ?_⟩
  intro p e s m args below meth c H locs A rest ls hst hF hE hA hP hS hL
  have hlocks := hF.2.2.2.2.2.2.1
  exact vx_ret (W.vret hF.1 hF.2.1 (hF.2.2.2.1.trans hr) (fun t ht hW => ⟨⟨_, rfl, rfl⟩, by rw [ht]; exact hP, hS.F ht⟩) hS.2.2 hdg)
end FmMem
-- CALLS
/-- the locals with which a method begins -/
def fmArgs : List Value → List (Option Value)
  | [] => []
  | v :: vs => if v.category = 2 then some v :: none :: fmArgs vs else some v :: fmArgs vs
theorem fmArgs_lv : ∀ (vs : List Value) (i j : Nat) (v : Value), (fmArgs vs)[j]? = some (some v) → (i + j, v) ∈ lv_args i vs
  | [], i, j, v, h => by simp [fmArgs] at h
  | u :: vs, i, j, v, h => by
    unfold fmArgs at h
    unfold lv_args
    by_cases hc : u.category = 2
    · simp only [hc, if_true] at h ⊢
      match j with
      | 0 => simp at h; subst h; exact List.mem_cons_self
      | 1 => simp at h
      | j + 2 =>
        simp at h
        have := fmArgs_lv vs (i + 2) j v h
        refine List.mem_cons_of_mem _ ?_
        rw [show i + (j + 2) = i + 2 + j by omega]
        exact this
    · simp only [hc, if_false] at h ⊢
      match j with
      | 0 => simp at h; subst h; exact List.mem_cons_self
      | j + 1 =>
        simp at h
        have := fmArgs_lv vs (i + 1) j v h
        refine List.mem_cons_of_mem _ ?_
        rw [show i + (j + 1) = i + 1 + j by omega]
        exact this
theorem fmGood_of {T : fmT} {l : Launch} {G : fmG} {d : Nat} {y : fmY} {args : List Value} {M : fmM} {Q : fmR → fmM → Prop} (hl : l.stackTraces = false) (hn : plainName y.1.cls = true) (hlen : (lg_sl args).length ≤ y.2.2.1) (h : fmEv T l G d y 0 (fmArgs args ++ List.replicate (y.2.2.1 - (fmArgs args).length) none) [] M Q) : fmGood T l G d y args M Q := by
  obtain ⟨o, M', hq, k⟩ := h
  refine ⟨o, M', hq, fun A rest => ?_⟩
  refine vx_ofW (cc := y.2.1) (maxL := y.2.2.1) (ret := y.2.2.2) hn rfl ?_
  intro p e s m args' below meth c s₁ B hml htab hv
  obtain ⟨rfl, hE, hA, hP⟩ := hv
  have hx := B.exec
  have hb := B.bytes
  have hr := B.returns
  have hts := atoms_spec (ws := fmWy y) B.pre
  have hown : s.vm.findClass y.1.cls = some m.cls := findClass_of_methodNamed B.named
  have hlocks := B.notSynchronized
  have hS : va_S A s.heap s.heap [] := va_S.rf
  have hl0 := lv_entry args (n := y.2.2.1) hlen
  rw [lg_entry_eq]
  generalize (lg_sl args ++ List.replicate (y.2.2.1 - (lg_sl args).length) Slot.unset).toArray = ls at hl0 ⊢
  refine k p e s m args.toArray below meth c s.heap [] A rest ls hl ⟨hx, hb, hml, hr, hown, hts, hlocks, htab⟩ hE hA hP hS ⟨hl0.1, hl0.2.1, fun i v hi => ?_⟩
  have h1 : (fmArgs args)[i]? = some (some v) := by
    rcases Nat.lt_or_ge i (fmArgs args).length with q | q
    · rwa [List.getElem?_append_left q] at hi
    · rw [List.getElem?_append_right q] at hi
      have := List.mem_of_getElem? hi
      simp at this
  have h2 := fmArgs_lv args 0 i v h1
  rw [Nat.zero_add] at h2
  exact hl0.2.2 (i, v) h2
end
-- P 07
section
-- CALLS OF THE FLAT MACHINE'S METHODS
theorem fmWs_good {w : Cond} (h : w ∈ fmWs) : goodWord w = true := (List.mem_filter.mp h).2
theorem fm_callB {own : String} {idx n d d' : Nat} {y' y : fmY} {o o' : fmR} {s : State} {args : Array Value} (hd : d' + 1 ≤ d) (hc : fmCb own idx y' n) (hts : ∀ w ∈ fmWy y, w.before args s = true) : CallB (fmRm d o) s args own idx y'.1 y'.2.1 y'.2.2.1 y'.2.2.2 (fmWy y') (fmRm d' o') (fmMc o') (fmMs o') n := by
  have ok : ∀ w ∈ fmWs, w.before args s = true := fun w h => hts w (List.mem_cons_of_mem _ h)
  refine callB_of (Ts := fmWy y) n hts ?_ rfl rfl rfl (ok _ hc.2.1) (ok _ hc.1) hc.2.2.2.1 ⟨?_, ?_⟩
  · intro w hw
    rcases List.mem_cons.mp hw with e | h
    · rw [e]; exact ⟨List.mem_cons_of_mem _ hc.2.2.1, good_of_word (fmWs_good hc.2.2.1)⟩
    · exact ⟨List.mem_cons_of_mem _ h, good_of_word (fmWs_good h)⟩
  · show d' + 10 + 1 ≤ d + 10; omega
  · have := hc.2.2.2.2
    show 8 + (y'.2.2.1 + 11) + (60 * d' + 200) ≤ 60 * d + 200; omega
section FmCalls
variable {T : fmT} {l : Launch} {G : fmG} {d d' : Nat} {y y' : fmY} {pc idx n : Nat} {L : List (Option Value)} {st As : List Value} {M : fmM} {Q : fmR → fmM → Prop}
/-- what a call's end means to its caller -/
def fmThen (T : fmT) (l : Launch) (G : fmG) (d : Nat) (y : fmY) (pc : Nat) (L : List (Option Value)) (st : List Value) (Q : fmR → fmM → Prop) : fmR → fmM → Prop := fun o M' => match o with
  | .inl v => fmEv T l G d y pc L (v.toList ++ st) M' Q
  | .inr E => Q (.inr E) M'
theorem fm_after {st0 args' : List Value} (run : ∀ (o : fmR) (M1 : fmM) (o2 : fmR), (∀ (A : Nat → Prop) (rest : va_W), vx_Met l y'.1 (fmWy y') (fmRm d' o) (fmPc T G args' M A rest) (fmQc T G A M1 rest o) (fmXC T G A M1 rest o) (fmMc o) (fmMs o) A) → (∀ E, o = .inr E → o2 = .inr E) →
      ∀ (p : Program) (e : Env) (s : State) (m : MethodId) (args : Array Value) (below : List Frame) (meth : Method) (c : Code) (H : Heap) (locs : List Loc) (A : Nat → Prop) (rest : va_W) (ls : Array Slot), l.stackTraces = false → fmFix p s m args meth c y → fmEnv G A s → (∀ q : Nat, s.heap.size ≤ q → A q) → fmPic T G A M rest H → va_S A s.heap H locs → fmHas ls y.2.2.1 L →
      vx_Run p l e (fmRm d o2) s m args below meth c H locs 0 0 (fmMc o) (fmMs o) (F0 m pc ls st0) st (fmQc T G A M1 rest o args'.toArray) (fmXC T G A M1 rest o) A)
    (hg : fmGood T l G d' y' args' M (fmThen T l G d y (pc + 3) L st Q)) : fmEv T l G d y pc L st0 M Q := by
  obtain ⟨o, M1, hq, hM⟩ := hg
  cases o with
  | inl v =>
    obtain ⟨o2, M2, hq2, k⟩ := hq
    refine ⟨o2, M2, hq2, ?_⟩
    intro p e s m args below meth c H locs A rest ls hst hF hE hA hP hS hL
    have hr := run (.inl v) M1 o2 hM (fun E h => by cases h) p e s m args below meth c H locs A rest ls hst hF hE hA hP hS hL
    intro Tm hT X
    rcases hr Tm hT X with ⟨v', st₀, t, T', L', h0, X', hL', e1, e2, ⟨⟨v2, hv1, hv2⟩, hP', hF'⟩, stp⟩ | ⟨q, st₀, t, T', L', E, ce, h0, X', hL', e1, e2, ⟨hx, -⟩, -⟩
    · cases hv1
      cases hv2
      obtain ⟨k1, k2, k3⟩ := vx_keep h0 e1 hS (fun _ _ h => h) (fun _ h => h) hL' hF'
      obtain ⟨t2, a1, b1⟩ := k p e s m args below meth c T'.heap (locs ++ L') A rest ls hst hF hE hA (by rw [e1]; exact hP') k3 hL T' rfl X'
      exact ⟨t2, stp t2 a1, b1⟩
    · cases hx
  | inr E0 =>
    refine ⟨.inr E0, M1, hq, ?_⟩
    intro p e s m args below meth c H locs A rest ls hst hF hE hA hP hS hL
    have hr := run (.inr E0) M1 (.inr E0) hM (fun E h => h) p e s m args below meth c H locs A rest ls hst hF hE hA hP hS hL
    intro Tm hT X
    rcases hr Tm hT X with ⟨v', st₀, t, T', L', h0, X', hL', e1, e2, ⟨⟨v2, hv1, hv2⟩, hP', hF'⟩, stp⟩ | ⟨q, st₀, t, T', L', E, ce, h0, X', hL', e1, e2, ⟨hx, hP', hF'⟩, hce, hcv, hcl, stp⟩
    · cases hv1
    · cases hx
      obtain ⟨k1, k2, k3⟩ := vx_keep h0 e1 hS (fun _ _ h => h) (fun _ h => h) hL' hF'
      have K : vx_W p l e (fmRm d (.inr E0)) s m args below meth c T'.heap (locs ++ L') (0 + fmMc (.inr E0)) (0 + fmMs (.inr E0)) (vx_MQ below (fmQc T G A M1 rest (.inr E0)) (fmXC T G A M1 rest (.inr E0)) args s (fmMc (.inr E0)) (fmMs (.inr E0)) A) (F0 m pc ls st) q :=
        vx_out (fun x hx => (hF.2.2.2.2.2.2.2 x hx).elim) hF.2.2.2.2.2.2.1 (by rw [e1]; exact hce) hcv hcl (fun t9 ht9 _ => ⟨rfl, by rw [ht9, e1]; exact hP', by have := k3.F ht9; exact this⟩) k3.2.2 (by simp [fmMc]) (by simp [fmMs])
      obtain ⟨t2, a1, b1⟩ := K T' rfl X'
      exact ⟨t2, stp.trans a1, b1⟩
theorem fm_pre {s U : State} {H : Heap} {locs : List Loc} {A : Nat → Prop} {rest : va_W} {As : List Value} (hE : fmEnv G A s) (hA : ∀ q : Nat, s.heap.size ≤ q → A q) (hP : fmPic T G A M rest H) (hS : va_S A s.heap H locs) (hU : U.heap = H) (hW : s.WarmedH U.vm) : fmPc T G As M A rest As.toArray U :=
  ⟨rfl, hE.warm hS hU hW, fun q h => hA q (Nat.le_trans hS.1 (by rw [← hU]; exact h)), by rw [hU]; exact hP⟩
theorem fm_invV {k ci : Nat} {args' : List Value} (hc : fmCv y.1.cls idx y' n ci) (hk : k < T.1) (hkd : T.2.1 k = ci + 6) (hn : As.length = n) (hargs : args' = .ref (G.1 k) :: As) {st0 : List Value} (hst0 : st0 = As.reverse ++ .ref (G.1 k) :: st) (hcat : (st.map fun v => v.category).sum ≤ 8) (hd : d' + 1 ≤ d) (hdg : decode y.2.1 pc = .ok (.invokevirtual idx, 3)) (hg : fmGood T l G d' y' args' M (fmThen T l G d y (pc + 3) L st Q)) : fmEv T l G d y pc L st0 M Q := by
  subst hst0
  subst hargs
  refine fm_after ?_ hg
  intro o M1 o2 hM hcost p e s m args below meth c H locs A rest ls hst hF hE hA hP hS hL
  have hts := hF.2.2.2.2.2.1
  have ok : ∀ w ∈ fmWs, w.before args s = true := fun w h => hts w (List.mem_cons_of_mem _ h)
  obtain ⟨hcb, hci, hcs, r, hr1, hr2⟩ := hc
  have hrecv := va_recv (s := s) hE.1 hP.1 hr1 (fmL_obj hk hkd)
  refine vx_runV (C := y'.1.cls) (As := As) (rest := st) ⟨hF.1, hF.2.1, hF.2.2.1, hF.2.2.2.2.1, hts⟩ (hM A rest) ⟨fm_callB hd hcb hts, ok _ hci, ok _ hcs⟩ ⟨fmPc.blind, by rw [← hr2]; exact hrecv, fun U hU hW => fm_pre hE hA hP hS hU hW⟩ rfl hn hL.1 rfl (lv_room hcat) hdg ⟨?_, ?_⟩
  · cases o with
    | inl v => exact Nat.zero_le _
    | inr E => rw [hcost E rfl]; simp [fmRm, fmMc]
  · cases o with
    | inl v => exact Nat.zero_le _
    | inr E => rw [hcost E rfl]; simp [fmRm, fmMs]
theorem fm_invS {args' : List Value} (hc : fmCs y.1.cls idx y' n) (hn : args'.length = n) {st0 : List Value} (hst0 : st0 = args'.reverse ++ st) (hcat : (st.map fun v => v.category).sum ≤ 8) (hd : d' + 1 ≤ d) (hdg : decode y.2.1 pc = .ok (.invokestatic idx, 3)) (hg : fmGood T l G d' y' args' M (fmThen T l G d y (pc + 3) L st Q)) : fmEv T l G d y pc L st0 M Q := by
  subst hst0
  refine fm_after ?_ hg
  intro o M1 o2 hM hcost p e s m args below meth c H locs A rest ls hst hF hE hA hP hS hL
  have hts := hF.2.2.2.2.2.1
  have ok : ∀ w ∈ fmWs, w.before args s = true := fun w h => hts w (List.mem_cons_of_mem _ h)
  obtain ⟨hcb, hcs⟩ := hc
  refine vx_runS (As := args') (rest := st) ⟨hF.1, hF.2.1, hF.2.2.1, hF.2.2.2.2.1, hts⟩ (hM A rest) ⟨fm_callB hd hcb hts, ok _ hcs⟩ ⟨fmPc.blind, fun U hU hW => fm_pre hE hA hP hS hU hW⟩ rfl hn hL.1 rfl (lv_room hcat) hdg ⟨?_, ?_⟩
  · cases o with
    | inl v => exact Nat.zero_le _
    | inr E => rw [hcost E rfl]; simp [fmRm, fmMc]
  · cases o with
    | inl v => exact Nat.zero_le _
    | inr E => rw [hcost E rfl]; simp [fmRm, fmMs]
end FmCalls
theorem fm_then1 {T : fmT} {l : Launch} {G : fmG} {d : Nat} {y : fmY} {pc : Nat} {L : List (Option Value)} {st : List Value} {M' : fmM} {Q : fmR → fmM → Prop} {v : Value} (h : fmEv T l G d y pc L (v :: st) M' Q) : fmThen T l G d y pc L st Q (.inl (some v)) M' := h
theorem fm_then0 {T : fmT} {l : Launch} {G : fmG} {d : Nat} {y : fmY} {pc : Nat} {L : List (Option Value)} {st : List Value} {M' : fmM} {Q : fmR → fmM → Prop} (h : fmEv T l G d y pc L st M' Q) : fmThen T l G d y pc L st Q (.inl none) M' := h
theorem fm_thenX {T : fmT} {l : Launch} {G : fmG} {d : Nat} {y : fmY} {pc : Nat} {L : List (Option Value)} {st : List Value} {M' : fmM} {Q : fmR → fmM → Prop} {E : String} (h : Q (.inr E) M') : fmThen T l G d y pc L st Q (.inr E) M' := h
end
-- P 07b
section
section FmCall2
variable {T : fmT} {l : Launch} {G : fmG} {d d' : Nat} {y y' : fmY} {pc idx n : Nat} {L : List (Option Value)} {st : List Value} {M : fmM} {Q : fmR → fmM → Prop}
theorem fm_invV0 {k ci : Nat} (hc : fmCv y.1.cls idx y' 0 ci) (hk : k < T.1) (hkd : T.2.1 k = ci + 6) (hcat : (st.map fun v => v.category).sum ≤ 8) (hd : d' + 1 ≤ d) (hdg : decode y.2.1 pc = .ok (.invokevirtual idx, 3)) (hg : fmGood T l G d' y' [.ref (G.1 k)] M (fmThen T l G d y (pc + 3) L st Q)) : fmEv T l G d y pc L (.ref (G.1 k) :: st) M Q := fm_invV (As := []) hc hk hkd rfl rfl rfl hcat hd hdg hg
theorem fm_invV1 {k ci : Nat} {a0 : Value} (hc : fmCv y.1.cls idx y' 1 ci) (hk : k < T.1) (hkd : T.2.1 k = ci + 6) (hcat : (st.map fun v => v.category).sum ≤ 8) (hd : d' + 1 ≤ d) (hdg : decode y.2.1 pc = .ok (.invokevirtual idx, 3)) (hg : fmGood T l G d' y' [.ref (G.1 k), a0] M (fmThen T l G d y (pc + 3) L st Q)) : fmEv T l G d y pc L (a0 :: .ref (G.1 k) :: st) M Q := fm_invV (As := [a0]) hc hk hkd rfl rfl rfl hcat hd hdg hg
theorem fm_invV2 {k ci : Nat} {a0 a1 : Value} (hc : fmCv y.1.cls idx y' 2 ci) (hk : k < T.1) (hkd : T.2.1 k = ci + 6) (hcat : (st.map fun v => v.category).sum ≤ 8) (hd : d' + 1 ≤ d) (hdg : decode y.2.1 pc = .ok (.invokevirtual idx, 3)) (hg : fmGood T l G d' y' [.ref (G.1 k), a0, a1] M (fmThen T l G d y (pc + 3) L st Q)) : fmEv T l G d y pc L (a1 :: a0 :: .ref (G.1 k) :: st) M Q := fm_invV (As := [a0, a1]) hc hk hkd rfl rfl rfl hcat hd hdg hg
theorem fm_invV3 {k ci : Nat} {a0 a1 a2 : Value} (hc : fmCv y.1.cls idx y' 3 ci) (hk : k < T.1) (hkd : T.2.1 k = ci + 6) (hcat : (st.map fun v => v.category).sum ≤ 8) (hd : d' + 1 ≤ d) (hdg : decode y.2.1 pc = .ok (.invokevirtual idx, 3)) (hg : fmGood T l G d' y' [.ref (G.1 k), a0, a1, a2] M (fmThen T l G d y (pc + 3) L st Q)) : fmEv T l G d y pc L (a2 :: a1 :: a0 :: .ref (G.1 k) :: st) M Q := fm_invV (As := [a0, a1, a2]) hc hk hkd rfl rfl rfl hcat hd hdg hg
theorem fm_invV4 {k ci : Nat} {a0 a1 a2 a3 : Value} (hc : fmCv y.1.cls idx y' 4 ci) (hk : k < T.1) (hkd : T.2.1 k = ci + 6) (hcat : (st.map fun v => v.category).sum ≤ 8) (hd : d' + 1 ≤ d) (hdg : decode y.2.1 pc = .ok (.invokevirtual idx, 3)) (hg : fmGood T l G d' y' [.ref (G.1 k), a0, a1, a2, a3] M (fmThen T l G d y (pc + 3) L st Q)) : fmEv T l G d y pc L (a3 :: a2 :: a1 :: a0 :: .ref (G.1 k) :: st) M Q := fm_invV (As := [a0, a1, a2, a3]) hc hk hkd rfl rfl rfl hcat hd hdg hg
theorem fm_invV5 {k ci : Nat} {a0 a1 a2 a3 a4 : Value} (hc : fmCv y.1.cls idx y' 5 ci) (hk : k < T.1) (hkd : T.2.1 k = ci + 6) (hcat : (st.map fun v => v.category).sum ≤ 8) (hd : d' + 1 ≤ d) (hdg : decode y.2.1 pc = .ok (.invokevirtual idx, 3)) (hg : fmGood T l G d' y' [.ref (G.1 k), a0, a1, a2, a3, a4] M (fmThen T l G d y (pc + 3) L st Q)) : fmEv T l G d y pc L (a4 :: a3 :: a2 :: a1 :: a0 :: .ref (G.1 k) :: st) M Q := fm_invV (As := [a0, a1, a2, a3, a4]) hc hk hkd rfl rfl rfl hcat hd hdg hg
theorem fm_invV6 {k ci : Nat} {a0 a1 a2 a3 a4 a5 : Value} (hc : fmCv y.1.cls idx y' 6 ci) (hk : k < T.1) (hkd : T.2.1 k = ci + 6) (hcat : (st.map fun v => v.category).sum ≤ 8) (hd : d' + 1 ≤ d) (hdg : decode y.2.1 pc = .ok (.invokevirtual idx, 3)) (hg : fmGood T l G d' y' [.ref (G.1 k), a0, a1, a2, a3, a4, a5] M (fmThen T l G d y (pc + 3) L st Q)) : fmEv T l G d y pc L (a5 :: a4 :: a3 :: a2 :: a1 :: a0 :: .ref (G.1 k) :: st) M Q := fm_invV (As := [a0, a1, a2, a3, a4, a5]) hc hk hkd rfl rfl rfl hcat hd hdg hg
theorem fm_invS1 {a0 : Value} (hc : fmCs y.1.cls idx y' 1) (hcat : (st.map fun v => v.category).sum ≤ 8) (hd : d' + 1 ≤ d) (hdg : decode y.2.1 pc = .ok (.invokestatic idx, 3)) (hg : fmGood T l G d' y' [a0] M (fmThen T l G d y (pc + 3) L st Q)) : fmEv T l G d y pc L (a0 :: st) M Q := fm_invS (args' := [a0]) hc rfl rfl hcat hd hdg hg
theorem fm_invS2 {a0 a1 : Value} (hc : fmCs y.1.cls idx y' 2) (hcat : (st.map fun v => v.category).sum ≤ 8) (hd : d' + 1 ≤ d) (hdg : decode y.2.1 pc = .ok (.invokestatic idx, 3)) (hg : fmGood T l G d' y' [a0, a1] M (fmThen T l G d y (pc + 3) L st Q)) : fmEv T l G d y pc L (a1 :: a0 :: st) M Q := fm_invS (args' := [a0, a1]) hc rfl rfl hcat hd hdg hg
theorem fm_invS3 {a0 a1 a2 : Value} (hc : fmCs y.1.cls idx y' 3) (hcat : (st.map fun v => v.category).sum ≤ 8) (hd : d' + 1 ≤ d) (hdg : decode y.2.1 pc = .ok (.invokestatic idx, 3)) (hg : fmGood T l G d' y' [a0, a1, a2] M (fmThen T l G d y (pc + 3) L st Q)) : fmEv T l G d y pc L (a2 :: a1 :: a0 :: st) M Q := fm_invS (args' := [a0, a1, a2]) hc rfl rfl hcat hd hdg hg
theorem fm_invS4 {a0 a1 a2 a3 : Value} (hc : fmCs y.1.cls idx y' 4) (hcat : (st.map fun v => v.category).sum ≤ 8) (hd : d' + 1 ≤ d) (hdg : decode y.2.1 pc = .ok (.invokestatic idx, 3)) (hg : fmGood T l G d' y' [a0, a1, a2, a3] M (fmThen T l G d y (pc + 3) L st Q)) : fmEv T l G d y pc L (a3 :: a2 :: a1 :: a0 :: st) M Q := fm_invS (args' := [a0, a1, a2, a3]) hc rfl rfl hcat hd hdg hg
theorem fm_invS5 {a0 a1 a2 a3 a4 : Value} (hc : fmCs y.1.cls idx y' 5) (hcat : (st.map fun v => v.category).sum ≤ 8) (hd : d' + 1 ≤ d) (hdg : decode y.2.1 pc = .ok (.invokestatic idx, 3)) (hg : fmGood T l G d' y' [a0, a1, a2, a3, a4] M (fmThen T l G d y (pc + 3) L st Q)) : fmEv T l G d y pc L (a4 :: a3 :: a2 :: a1 :: a0 :: st) M Q := fm_invS (args' := [a0, a1, a2, a3, a4]) hc rfl rfl hcat hd hdg hg
theorem fm_invS6 {a0 a1 a2 a3 a4 a5 : Value} (hc : fmCs y.1.cls idx y' 6) (hcat : (st.map fun v => v.category).sum ≤ 8) (hd : d' + 1 ≤ d) (hdg : decode y.2.1 pc = .ok (.invokestatic idx, 3)) (hg : fmGood T l G d' y' [a0, a1, a2, a3, a4, a5] M (fmThen T l G d y (pc + 3) L st Q)) : fmEv T l G d y pc L (a5 :: a4 :: a3 :: a2 :: a1 :: a0 :: st) M Q := fm_invS (args' := [a0, a1, a2, a3, a4, a5]) hc rfl rfl hcat hd hdg hg
theorem fm_invS7 {a0 a1 a2 a3 a4 a5 a6 : Value} (hc : fmCs y.1.cls idx y' 7) (hcat : (st.map fun v => v.category).sum ≤ 8) (hd : d' + 1 ≤ d) (hdg : decode y.2.1 pc = .ok (.invokestatic idx, 3)) (hg : fmGood T l G d' y' [a0, a1, a2, a3, a4, a5, a6] M (fmThen T l G d y (pc + 3) L st Q)) : fmEv T l G d y pc L (a6 :: a5 :: a4 :: a3 :: a2 :: a1 :: a0 :: st) M Q := fm_invS (args' := [a0, a1, a2, a3, a4, a5, a6]) hc rfl rfl hcat hd hdg hg
theorem fm_ldc {v : Int32} (hw : Cond.constant y.1.cls idx v ∈ fmWs) (hdg : decode y.2.1 pc = .ok (.ldc idx, 2)) (k : fmEv T l G d y (pc + 2) L (.int v :: st) M Q) : fmEv T l G d y pc L st M Q := fm_roww (fun _ _ _ _ _ _ _ _ _ _ _ _ _ _ _ _ hF hE kk => lv_ldc hF.1 hF.2.1 hF.2.2.2.2.1 (hF.2.2.2.2.2.1 _ (List.mem_cons_of_mem _ hw)) hdg kk) k
theorem fm_ldcw {v : Int32} (hw : Cond.constant y.1.cls idx v ∈ fmWs) (hdg : decode y.2.1 pc = .ok (.ldc_w idx, 3)) (k : fmEv T l G d y (pc + 3) L (.int v :: st) M Q) : fmEv T l G d y pc L st M Q := fm_roww (fun _ _ _ _ _ _ _ _ _ _ _ _ _ _ _ _ hF hE kk => lv_ldcw hF.1 hF.2.1 hF.2.2.2.2.1 (hF.2.2.2.2.2.1 _ (List.mem_cons_of_mem _ hw)) hdg kk) k
theorem fm_ldc2 {v : Int64} (hw : Cond.constantLong y.1.cls idx v ∈ fmWs) (hdg : decode y.2.1 pc = .ok (.ldc2_w idx, 3)) (k : fmEv T l G d y (pc + 3) L (.long v :: st) M Q) : fmEv T l G d y pc L st M Q := fm_roww (fun _ _ _ _ _ _ _ _ _ _ _ _ _ _ _ _ hF hE kk => lv_ldc2 hF.1 hF.2.1 hF.2.2.2.2.1 (hF.2.2.2.2.2.1 _ (List.mem_cons_of_mem _ hw)) hdg kk) k
/-- where a tableswitch goes -/
def fmTsw (pc : Nat) (dflt lo hi : Int) (offs : Array Int) (x : Int32) : Int := if x.toInt < lo ∨ hi < x.toInt then (pc : Int) + dflt else (pc : Int) + offs.getD (x.toInt - lo).toNat 0
theorem fm_table {dflt lo hi : Int} {offs : Array Int} {len : Nat} {x : Int32} (tgt : Nat) (hsz : offs.size = (hi - lo + 1).toNat) (ht : fmTsw pc dflt lo hi offs x = (tgt : Int)) (hdg : decode y.2.1 pc = .ok (.tableswitch dflt lo hi offs, len)) (k : fmEv T l G d y tgt L st M Q) : fmEv T l G d y pc L (.int x :: st) M Q := by
  unfold fmTsw at ht
  by_cases h : x.toInt < lo ∨ hi < x.toInt
  · rw [if_pos h] at ht
    exact fm_row (fun _ _ _ _ _ _ _ _ _ _ _ _ _ _ _ hx hb hL kk => lv_tableOut hx hb hdg h ht kk) k
  · rw [if_neg h] at ht
    have h1 : ¬ x.toInt < lo := fun q => h (Or.inl q)
    have h2 : ¬ hi < x.toInt := fun q => h (Or.inr q)
    have h3 : (x.toInt - lo).toNat < offs.size := by omega
    have h4 : offs[(x.toInt - lo).toNat]? = some (offs.getD (x.toInt - lo).toNat 0) := by simp [h3]
    exact fm_row (fun _ _ _ _ _ _ _ _ _ _ _ _ _ _ _ hx hb hL kk => lv_tableIn hx hb hdg h1 h2 h4 ht kk) k
theorem fm_lookup {dflt : Int} {ps : Array (Int × Int)} {len : Nat} {x : Int32} (tgt : Nat) (hp : (ps.toList.zip (ps.toList.drop 1)).all (fun (a, next) => a.1 < next.1) = true) (ht : (pc : Int) + Op.lookupswitch.offset ps.toList dflt x.toInt = (tgt : Int)) (hdg : decode y.2.1 pc = .ok (.lookupswitch dflt ps, len)) (k : fmEv T l G d y tgt L st M Q) : fmEv T l G d y pc L (.int x :: st) M Q := fm_row (fun _ _ _ _ _ _ _ _ _ _ _ _ _ _ _ hx hb hL kk => lv_lookup hx hb hdg hp rfl ht kk) k
theorem fm_inl {i : Int32} {n : Nat} (h : (decide (0 ≤ i.toInt) && decide (i.toInt < n)) = true) : vp_in i n := by
  simp only [Bool.and_eq_true, decide_eq_true_eq] at h
  exact vp_in_iff.mpr h
end FmCall2
end
-- P 07c
section
-- THROWS OF A CLASS WHOSE (String) CONSTRUCTOR CALLS UP BY ANOTHER POOL PLACE THAN 7 (java.util.NoSuchElementException of JDK 17: place 13); launches without stack traces. By the library's Bundle laws (chainSX, ctorMessageOffV, athrowLeaves), as vx_throwSW does for place 7.
section FmCtor
variable {p : Program} {l : Launch} {e : Env} {R : Room} {s : State} {m₀ : MethodId} {args : Array Value} {below : List Frame} {meth : Method} {c : Code} {W9 : State} {locs : List Loc} {cells slots : Nat}
set_option maxHeartbeats 1000000 in
theorem fm_ctorSX (X : Stand p l e R s m₀ args below meth c W9 locs cells slots) (hexec : p.tables.exec = Jvm.exec) (htr : e.platform.stackTraces = false) {own cls : String} {names : List String} {ic ix : Nat} {rx : ByteArray}
    (x0 : decode rx 0 = .ok (.aload_n 0, 1)) (x1 : decode rx 1 = .ok (.aload_n 1, 1)) (x2 : decode rx 2 = .ok (.invokespecial ix, 3)) (x5 : decode rx 5 = .ok (.return_, 1))
    (hown : s.vm.findClass own = some m₀.cls) (hcls : Bundle.fit cls = true) (hnames : ∀ n ∈ names, Bundle.fit n = true)
    (h : ∀ a ∈ Bundle.ownAtomsX own ic cls ix rx names, a.before args s = true)
    (hlocs : ∀ x ∈ locs, ∀ cell, s.heap[x.base]? = some cell → cell.vm.isStatics = false)
    {a : Addr} {cX : ClassId} {kX : Class} (hfoundX : s.vm.findClass cls = some cX) (hkX : s.vm.classes[cX]? = some kX) (hcell : W9.heap[a]? = some (freshCell cX kX)) (hnew : s.heap.size ≤ a)
    {msg : Value} (hmsg : msg.isRef = true)
    {g : JFrame} (hg : g.method = m₀) (hsize : g.locals.size = c.maxLocals) (hlocked : g.locked = none) (hentered : g.entered = []) {rest : List Value} (hstack : g.stack = msg :: .ref a :: .ref a :: rest)
    (hd6 : decode c.code g.pc = .ok (.invokespecial ic, 3)) (hd9 : decode c.code (g.pc + 3) = .ok (.athrow, 1)) (hout : ∀ x ∈ c.exceptionTable.toList, covers x (g.pc + 3) = false)
    (hRframes : names.length + 3 < R.frames) (hRlocals : 2 * g.monitorRoom + ((Value.ref a :: rest).map fun v => v.category).sum + (13 * (names.length + 1) + 42) ≤ R.locals) (hlocks : meth.locks = false) :
    ∃ U : State, Steps p.tables e below (W9.setTop g) U ∧ U.status = .running ∧ Ended U below (.threw a) ∧ s.WarmedH U.vm ∧ s.sameButNew ({ U with vm := s.vm } : State) locs cells slots ∧
      ∃ ce, U.heap[a]? = some ce ∧ ce.vm = .none ∧ s.vm.findClass cls = some ce.cls := by
  have hpf : e.platform.frameOwnsMonitors = true ∧ e.platform.finalization = false ∧ e.platform.magicAccessors = ({} : Platform).magicAccessors := by rw [X.admits.platform]; exact ⟨rfl, rfl, rfl⟩
  obtain ⟨howns, hfin, hpl⟩ := hpf
  have w9 : ∀ x, x ∈ Bundle.ownAtomsX own ic cls ix rx names → x.holds args s none s [] = true := fun x hx => h x hx
  obtain ⟨T, Z0, L, -, Y⟩ := ThrowableC.of_atoms (args := args) howns hfin hpl (fun x hx => h x (by simp [Bundle.ownAtomsX, hx]))
  obtain ⟨Z, N, LZ, LN, hnZ⟩ := Init0T.ofS_atoms (args := args) hpl L Y (fun x hx => h x (by simp [Bundle.ownAtomsX, hx]))
  obtain ⟨P1, Ps, hlen, L1, hL, hP1m, hlink1, hlink⟩ := Bundle.chainSX (args := args) hpl hnZ x0 x1 x2 x5 names cls hcls hnames (fun x hx => h x (by simp [Bundle.ownAtomsX, hx]))
  have hfound : s.vm.findClass cls = some P1.m.cls := findClass_of_methodNamed hP1m
  cases Option.some.inj (hfoundX.symm.trans hfound)
  obtain ⟨c1, kX', hc1, hk, hord, -, -, hn6⟩ := Cond.instantiable_spec (w9 (.instantiable cls 6) (by simp [Bundle.ownAtomsX]))
  cases Option.some.inj (hc1.symm.trans hfound)
  cases Option.some.inj (hkX.symm.trans hk)
  have hsel0 : selectMethod e.platform s.vm P1.m.cls T.fill0 = .method T.fill0 := by
    obtain ⟨c2, r2, m2, q1, q2, q3, q4, -⟩ := Cond.selects_spec (w9 (.selects cls Bundle.tFill0 Bundle.tFill0) (by simp [Bundle.ownAtomsX]))
    cases Option.some.inj (q1.symm.trans hfound)
    cases Option.some.inj (q2.symm.trans (State.methodFound?_of_named Y.fill0 (by decide)))
    cases Option.some.inj (q3.symm.trans Y.fill0)
    rw [Launch.admits_selectMethod X.admits]; exact q4
  have hselF : selectMethod e.platform s.vm P1.m.cls T.fill = .method T.fill := by
    obtain ⟨c2, r2, m2, q1, q2, q3, q4, -⟩ := Cond.selects_spec (w9 (.selects cls Bundle.tFill Bundle.tFill) (by simp [Bundle.ownAtomsX]))
    cases Option.some.inj (q1.symm.trans hfound)
    cases Option.some.inj (q2.symm.trans (State.methodFound?_of_named Y.fill (by decide)))
    cases Option.some.inj (q3.symm.trans Y.fill)
    rw [Launch.admits_selectMethod X.admits]; exact q4
  obtain ⟨cellS0, hcS0, hiss⟩ := Y.statics
  obtain ⟨u0, hu0⟩ := Cond.staticRefV Y.unassigned L.unassignedStatic L.statics hcS0 hiss (w9 (.isRef (.static Bundle.tN "UNASSIGNED_STACK" Bundle.steD)) (by simp [Bundle.ownAtomsX]))
  obtain ⟨sen, hsen⟩ := Cond.staticRefV Y.sentinel L.sentinelStatic L.statics hcS0 hiss (w9 (.isRef (.static Bundle.tN "SUPPRESSED_SENTINEL" Bundle.listD)) (by simp [Bundle.ownAtomsX]))
  obtain ⟨ci198, i198, fB, hk198, hg198, ha198, hsB, -, hnB, htB, hffB⟩ := Cond.ownField (t := .object "java/lang/Object") Y.found L.cls (by decide +kernel) (w9 (.fieldLink Bundle.tN 198 Bundle.tN "backtrace" "Ljava/lang/Object;") (by simp [Bundle.ownAtomsX])) (w9 (.lays Bundle.tN Bundle.tN "backtrace" "Ljava/lang/Object;") (by simp [Bundle.ownAtomsX])) e.platform hpl
  obtain ⟨cellS, hcS', heS, -, hkeep⟩ := X.same.2.2.2.2.2 T.aS cellS0 hcS0
  have hcellS : W9.heap[T.aS]? = some cellS := hcS'
  have hout' : ∀ i, (⟨T.aS, i⟩ : Loc) ∉ locs := fun i hmem => by
    have := hlocs _ hmem cellS0 hcS0
    rw [hiss] at this; cases this
  have hknownS : cellS.vm ≠ .unknown := by
    rw [heS]; intro hu
    rw [show cellS0.vm = .unknown from hu] at hiss
    cases hiss
  have hneS : T.aS ≠ a := Nat.ne_of_lt (Nat.lt_of_lt_of_le (Array.getElem?_eq_some_iff.mp hcS0).1 hnew)
  obtain ⟨iM, hffM⟩ := Y.msg
  obtain ⟨tyC, dC, hdC, hdnC⟩ := Cond.laysAt hfound hk Y.cause (w9 (.lays cls Bundle.tN "cause" "Ljava/lang/Throwable;") (by simp [Bundle.ownAtomsX]))
  obtain ⟨tyS, dS, hdS, hdnS⟩ := Cond.laysAt hfound hk Y.stack (w9 (.lays cls Bundle.tN "stackTrace" Bundle.steD) (by simp [Bundle.ownAtomsX]))
  obtain ⟨tyP, dP, hdP, hdnP⟩ := Cond.laysAt hfound hk Y.supp (w9 (.lays cls Bundle.tN "suppressedExceptions" Bundle.listD) (by simp [Bundle.ownAtomsX]))
  obtain ⟨tyM, dM, hdM, hdnM⟩ := Cond.laysAt hfound hk hffM (w9 (.lays cls Bundle.tN "detailMessage" "Ljava/lang/String;") (by simp [Bundle.ownAtomsX]))
  obtain ⟨tyB, dB, hdB, hdnB⟩ := Cond.laysAt hfound hk hffB (w9 (.lays cls Bundle.tN "backtrace" "Ljava/lang/Object;") (by simp [Bundle.ownAtomsX]))
  have bC := Cond.laysApart hdB hdC hdnB hdnC (by rw [hnB, Y.causeName]; decide)
  have bS := Cond.laysApart hdB hdS hdnB hdnS (by rw [hnB, Y.stackName]; decide)
  have bP := Cond.laysApart hdB hdP hdnB hdnP (by rw [hnB, Y.suppName]; decide)
  have hskip : SkipFacts T e.platform s (fun u => u) u0 ((preparedCellV T.toThrowableT (freshCell P1.m.cls kX) a u0 sen).withEntry W9.cur) :=
    ⟨{ ci198 := ci198, i198 := i198, fBack := fB }, ⟨hk198, hg198, ha198, hsB⟩, by
      have := fresh_default (c := P1.m.cls) tyB
      rw [htB] at this
      simpa [preparedCellV, Cell.setSlot, Cell.withEntry, Array.getElem?_setIfInBounds, bC, bS, bP, bC.symm, bS.symm, bP.symm, defaultValue] using this, fun _ _ => rfl⟩
  obtain ⟨tm, methC, cdC, kC, vm₁, hnC, -, -, -, -, -, -, -, hW₁, st1⟩ := Steps.initColdS (tb := p.tables) (e := e) (below := below) (s := s) (U := W9) X.here hexec X.warmed hpl hown (t := Bundle.initS cls) rfl rfl (Bundle.fit_spec hcls).2
    (w9 (.methodLink own ic (Bundle.initS cls)) (by simp [Bundle.ownAtomsX])) (h (.instanceMethod (Bundle.initS cls)) (by cases names <;> simp [Bundle.ownAtomsX, Bundle.chainSAtomsX, Bundle.passSAtoms])) (bytes := rx) (maxL := 2) (h (.code (Bundle.initS cls) rx 2 none) (by cases names <;> simp [Bundle.ownAtomsX, Bundle.chainSAtomsX, Bundle.passSAtoms]))
    (f := g) hg (a := a) (msg := msg) (rest := .ref a :: rest) hstack hd6
  cases Option.some.inj (hnC.symm.trans hP1m)
  have X₁ := X.noted hW₁
  obtain ⟨vm₂, X₂, st2⟩ := X₁.ctorMessageOffV hexec (g := { g with stack := .ref a :: rest }) hg hsize T L Z LZ N LN (P1 :: Ps)
    (fun P hP => by rcases List.mem_cons.mp hP with rfl | hP; exact L1; exact hL P hP) ⟨hlink1, hlink⟩ (u0 := u0) (sen := sen) (self := a) hmsg (cell := freshCell P1.m.cls kX) (cellS := cellS)
    hcell (fun _ => by simp) (by simp) rfl rfl hsel0 hselF hcellS hneS hknownS (by rw [hkeep _ (hout' _)]; exact hu0) (by rw [hkeep _ (hout' _)]; exact hsen)
    (Takes.of_laid hk hord tyC (by rw [Y.causeType]; rfl)) (Takes.of_laid hk hord tyS (by rw [Y.stackType]; exact fits_refV_array _ u0)) (Takes.of_laid hk hord tyP (by rw [Y.suppType]; exact fits_refV_object _ sen))
    (Takes.of_laid hk hord tyM (by rw [Y.msgType]; exact fits_refV_object _ ⟨msg, hmsg⟩)) Y.objLocals hskip htr [] hd6
    (by simp only [List.length_cons, hlen]; omega) (by simp only [List.length_cons, hlen]; exact hRlocals)
  obtain ⟨hwalk, hrun, hended, hWU, hsame⟩ := X₂.athrowLeaves hexec (g := { g with stack := .ref a :: rest, pc := g.pc + 3 }) hg hlocked hentered hout (a := a) (rest := rest) rfl hd9
  have hlt : a < ((W9.setVm vm₁).setVm vm₂).heap.size := (Array.getElem?_eq_some_iff.mp hcell).1
  have hU := heapAt_setCell_self (s := (W9.setVm vm₁).setVm vm₂) (plainBareV T.toThrowableT (freshCell P1.m.cls kX) a u0 sen msg) hlt
  refine ⟨_, st1 _ (fun acts => ?_), hrun, hended, hWU, hsame.weaken (fun y hy hlt' => ?_) (Nat.le_refl _) (Nat.le_refl _), _, hU, rfl, hfound⟩
  · rw [doInvoke_state]
    exact st2 _ hwalk
  · rcases List.mem_append.mp hy with h1 | h1
    · exact h1
    · exfalso
      have hb : y.base = a := by
        simp only [List.mem_cons, List.not_mem_nil, or_false] at h1
        rcases h1 with rfl | rfl | rfl | rfl | rfl <;> rfl
      rw [hb] at hlt'
      exact Nat.not_lt.mpr hnew hlt'
end FmCtor
def fm_atX (own : String) (ic : Nat) (X : String) (ix : Nat) (rx : ByteArray) (names : List String) : List Cond := (Bundle.ownAtomsX own ic X ix rx names).filter vx_no
section FmThrowX
variable {p : Program} {l : Launch} {e : Env} {R : Room} {s : State} {m : MethodId} {args : Array Value} {below : List Frame} {meth : Method} {c : Code} {H : Heap} {locs : List Loc} {cells slots : Nat}
variable {mc ms : Nat} {free : Addr → Prop} {ls : Array Slot} {rest : List Value} {Qc : Array Value → State → Outcome → State → Prop} {XC : String → State → State → Prop}
theorem fm_throwXW {cc : ByteArray} {pc : Nat} (hexec : p.tables.exec = Jvm.exec) (hb : c.code = cc) (hl : l.stackTraces = false) {own cls text : String} {names : List String} {ik is ic ix sa : Nat} {rx : ByteArray} {A : Nat → Prop}
    (x0 : decode rx 0 = .ok (.aload_n 0, 1)) (x1 : decode rx 1 = .ok (.aload_n 1, 1)) (x2 : decode rx 2 = .ok (.invokespecial ix, 3)) (x5 : decode rx 5 = .ok (.return_, 1))
    (hown : s.vm.findClass own = some m.cls) (hcls : Bundle.fit cls = true) (hnames : ∀ n ∈ names, Bundle.fit n = true)
    (hk : (Cond.classLink own ik cls).before args s = true) (hini : (Cond.initialized cls).before args s = true) (hstr : vk_R own is text sa s) (hat : ∀ w ∈ fm_atX own ic cls ix rx names, w.before args s = true)
    (hgood : ∀ w ∈ Cond.classLink own ik cls :: Cond.initialized cls :: fm_atX own ic cls ix rx names, vx_ot w = true)
    (hU : vx_Zq Bundle.tN "UNASSIGNED_STACK" Bundle.steD A s s.heap) (hN : vx_Zq Bundle.tN "SUPPRESSED_SENTINEL" Bundle.listD A s s.heap) (hS : va_S A s.heap H locs) (hsize : ls.size = c.maxLocals)
    (d0 : decode cc pc = .ok (.new ik, 3)) (d3 : decode cc (pc + 3) = .ok (.dup, 1)) (d4 : decode cc (pc + 4) = .ok (.ldc_w is, 3)) (d7 : decode cc (pc + 7) = .ok (.invokespecial ic, 3)) (d10 : decode cc (pc + 10) = .ok (.athrow, 1))
    (hout : ∀ x ∈ c.exceptionTable.toList, covers x (pc + 10) = false)
    (hRframes : names.length + 3 < R.frames) (hRlocals : (rest.map fun v => v.category).sum + (13 * (names.length + 1) + 43) ≤ R.locals) (hRcells : cells + 1 ≤ R.cells) (hRslots : slots + 6 ≤ R.slots) (hlocks : meth.locks = false)
    (hx : ∀ t : State, s.vm.Alike t.vm → H.size ≤ t.heap.size → (∀ q : Nat, q < H.size → t.heap[q]? = H[q]?) → XC cls s t)
    (hf : ∀ z ∈ locs, free z.base) (hc : cells + 1 ≤ mc) (hs : slots + 6 ≤ ms) :
    W p l e R s m args below meth c H locs cells slots (vx_MQ below Qc XC args s mc ms free) (F0 m pc ls rest) := by
  intro T hT X
  have htr : e.platform.stackTraces = false := (show e.platform.stackTraces = l.stackTraces by rw [X.admits.platform]).trans hl
  have Y := vx_rebase X (R' := { frames := R.frames, locals := R.locals, cells := 1, slots := 6 }) (Nat.le_refl _) (Nat.le_refl _) hRcells hRslots
  obtain ⟨s', hA⟩ : ∃ z, z = (T.setVm s.vm).setFrames (.invoking m args :: below) := ⟨_, rfl⟩
  rw [← hA] at Y
  have hvm : s'.vm = s.vm := by rw [hA]; rfl
  have hhp : s'.heap = H := by rw [hA]; exact hT
  have hW0 : s.WarmedH s'.vm := by rw [hvm]; exact State.WarmedH.refl s
  have hat' : ∀ w ∈ fm_atX own ic cls ix rx names, w.before args s' = true := fun w hw => vx_ot_at hW0 hvm.symm (hgood w (List.mem_cons_of_mem _ (List.mem_cons_of_mem _ hw))) (hat w hw)
  have hk' : (Cond.classLink own ik cls).before args s' = true := vx_ot_at hW0 hvm.symm (hgood _ List.mem_cons_self) hk
  have hini' : (Cond.initialized cls).before args s' = true := vx_ot_at hW0 hvm.symm (hgood _ (List.mem_cons_of_mem _ List.mem_cons_self)) hini
  have hU' : vx_Zq Bundle.tN "UNASSIGNED_STACK" Bundle.steD A s' s'.heap := by rw [hhp]; exact vx_Zq.moved hW0.alike (hU.kept hS.2.1)
  have hN' : vx_Zq Bundle.tN "SUPPRESSED_SENTINEL" Bundle.listD A s' s'.heap := by rw [hhp]; exact vx_Zq.moved hW0.alike (hN.kept hS.2.1)
  have h : ∀ w ∈ Bundle.ownAtomsX own ic cls ix rx names, w.before args s' = true := vx_own hat' (vx_isRefq hU'.1) (vx_isRefq hN'.1) hU'.2.word hN'.2.word
  have hown' : s'.vm.findClass own = some m.cls := by rw [hvm]; exact hown
  have hins : (Cond.instantiable cls 6).before args s' = true := h _ (by simp [Bundle.ownAtomsX])
  obtain ⟨vm₁, cX, kX, hfX, hkX, -, -, X₁, st1⟩ := Y.newCold hexec (own := own) (C := cls) (index := ik) (n := 6) hown' hk' hins hini'
    (g := F0 m pc ls rest) rfl (by rw [hb]; exact d0) (Nat.le_refl _) (Nat.le_refl _)
  generalize hT1 : (T.setVm vm₁).pushCell { cls := cX, slots := kX.instanceTypes.map defaultValue, vm := .none } = T1 at X₁ st1
  have hcat : (Value.ref T.heap.size).category = 1 := rfl
  have hcellA : T1.heap[T.heap.size]? = some (freshCell cX kX) := by rw [← hT1]; exact State.heap_pushCell_size _ _
  have d3' : decode c.code (pc + 3) = .ok (.dup, 1) := by rw [hb]; exact d3
  have d4' : decode c.code (pc + 4) = .ok (.ldc_w is, 3) := by rw [hb]; exact d4
  have hstr' : vk_R own is text sa s' := vk_R.warm hW0 hstr
  obtain ⟨U, hsteps, hrun, hend, hW, hsame, ce, hce, hov, hoc⟩ := fm_ctorSX X₁ hexec htr x0 x1 x2 x5 (own := own) (cls := cls) (names := names) (ic := ic) hown' hcls hnames h (fun x hx => nomatch hx) hfX hkX hcellA (by rw [hhp, hT]; exact Nat.le_refl _) (msg := .ref sa) rfl
    (g := { method := m, pc := pc + 7, locals := ls, stack := .ref sa :: .ref T.heap.size :: .ref T.heap.size :: rest, locked := none }) rfl hsize rfl rfl (rest := rest) rfl
    (by rw [hb]; exact d7) (by rw [hb]; exact d10) hout hRframes (by simp only [List.map_cons, List.sum_cons, hcat]; show 2 * 0 + _ + _ ≤ _; omega) hlocks
  obtain ⟨f1, f2⟩ := vx_frame hsame
  rw [hhp] at f1 f2
  have hWs : s.WarmedH U.vm := State.WarmedH.trans hW0 hW
  have hcl : s.vm.findClass cls = some ce.cls := by
    rw [hvm] at hoc
    exact hoc
  have hall : s.sameButNew ({ U with vm := s.vm } : State) locs mc ms := by
    subst hA
    obtain ⟨e1, e2⟩ := hsame
    rw [State.setFrames_setFrames] at e1
    have h2 : (T.setVm s.vm).sameButNew ({ U with vm := s.vm } : State) [] (0 + 1) (0 + 6) := ⟨e1, e2⟩
    have h3 := X.same.trans h2
    rw [List.append_nil] at h3
    exact h3.mono hc hs
  refine ⟨U, ?_, .threw T.heap.size, hrun, hend, Or.inr ⟨T.heap.size, rfl, cls, ce, locs, hx U hWs.alike f1 (fun q hq => f2 q hq (fun z hz => nomatch hz)), hce, hov, hcl, hWs, hall, hf⟩⟩
  refine st1 _ ?_
  show Steps p.tables e below (T1.setTop { method := m, pc := pc + 3, locals := ls, stack := .ref T.heap.size :: rest, locked := none }) _
  jvm_step X₁.here [X₁.here.top, hexec, d3', Value.category]
  exact X₁.ldcStringW hexec (own := own) (text := text) (index := is) (a := sa) hown' hstr'.1 hstr'.2
    (g := { method := m, pc := pc + 4, locals := ls, stack := .ref T.heap.size :: .ref T.heap.size :: rest, locked := none }) rfl d4' _ hsteps
end FmThrowX
section FmThrow
variable {T : fmT} {l : Launch} {G : fmG} {d : Nat} {y : fmY} {pc : Nat} {L : List (Option Value)} {st : List Value} {M : fmM} {Q : fmR → fmM → Prop}
/-- 'throw new E("text")' -/
theorem fm_throw {cls text : String} {names : List String} {ik is ic ix : Nat} {rx : ByteArray} {sa : fmG → Nat} {B9 : List Cond} (x0 : decode rx 0 = .ok (.aload_n 0, 1)) (x1 : decode rx 1 = .ok (.aload_n 1, 1)) (x2 : decode rx 2 = .ok (.invokespecial ix, 3)) (x5 : decode rx 5 = .ok (.return_, 1)) (hcls : Bundle.fit cls = true) (hnames : ∀ n ∈ names, Bundle.fit n = true) (hlen : names.length ≤ 5) (hk : Cond.classLink y.1.cls ik cls ∈ fmWs) (hini : Cond.initialized cls ∈ fmWs) (hstr : ∀ (A : Nat → Prop) (s : State), fmEnv G A s → vk_R y.1.cls is text (sa G) s) (hca : ∀ (A : Nat → Prop) (s : State) (args : Array Value), fmEnv G A s → ∀ w ∈ B9, w.before args s = true) (hat : ∀ w ∈ (fm_atX y.1.cls ic cls ix rx names).filter goodWord, w ∈ fmWs) (hno : ∀ w ∈ (fm_atX y.1.cls ic cls ix rx names).filter (fun w => !goodWord w), w ∈ B9) (hgood : ∀ w ∈ Cond.classLink y.1.cls ik cls :: Cond.initialized cls :: fm_atX y.1.cls ic cls ix rx names, vx_ot w = true)
    (hcat : (st.map fun v => v.category).sum ≤ 8) (d0 : decode y.2.1 pc = .ok (.new ik, 3)) (d3 : decode y.2.1 (pc + 3) = .ok (.dup, 1)) (d4 : decode y.2.1 (pc + 4) = .ok (.ldc_w is, 3)) (d7 : decode y.2.1 (pc + 7) = .ok (.invokespecial ic, 3)) (d10 : decode y.2.1 (pc + 10) = .ok (.athrow, 1)) (hq : Q (.inr cls) M) : fmEv T l G d y pc L st M Q := by
  refine ⟨.inr cls, M, hq, ?_⟩
  intro p e s m args below meth c H locs A rest ls hst hF hE hA hP hS hL
  have hts := hF.2.2.2.2.2.1
  have ok : ∀ w ∈ fmWs, w.before args s = true := fun w h => hts w (List.mem_cons_of_mem _ h)
  have hat' : ∀ w ∈ fm_atX y.1.cls ic cls ix rx names, w.before args s = true := vx_hat (fun w h => ok w (hat w h)) hno (hca A s args hE)
  refine fm_throwXW (sa := sa G) (text := text) hF.1 hF.2.1 hst x0 x1 x2 x5 hF.2.2.2.2.1 hcls hnames (ok _ hk) (ok _ hini) (hstr A s hE) hat' hgood hE.2.1 hE.2.2.1 hS (by rw [hF.2.2.1, hL.1]) d0 d3 d4 d7 d10 (fun x hx => (hF.2.2.2.2.2.2.2 x hx).elim) ?_ ?_ ?_ ?_ hF.2.2.2.2.2.2.1 ?_ hS.2.2 ?_ ?_
  · show names.length + 3 < d + 10; omega
  · show _ ≤ 60 * d + 200; omega
  · show 0 + 1 ≤ 1; omega
  · show 0 + 6 ≤ 6; omega
  · intro t hal hsz hkeep
    refine ⟨rfl, ⟨fun k q hq => (hP.1 k q hq).kept (hkeep q.1 (hP.1 k q hq).lt), hP.2⟩, Nat.le_trans hS.1 hsz, fun q h1 h2 => ?_⟩
    rw [hkeep q (Nat.lt_of_lt_of_le h1 hS.1)]
    exact hS.2.1 q h1 h2
  · show 0 + 1 ≤ 1; omega
  · show 0 + 6 ≤ 6; omega
end FmThrow
end
-- P 10
section
section FmRows2
variable {T : fmT} {l : Launch} {G : fmG} {d : Nat} {y : fmY} {pc : Nat} {L : List (Option Value)} {st : List Value} {M : fmM} {Q : fmR → fmM → Prop}
theorem fm_iloadn {n : Fin 4} {x : Int32} (i : Nat) (hi : (n : Nat) = i) (hv : L[i]? = some (some (.int x))) (hdg : decode y.2.1 pc = .ok (.iload_n n, 1)) (k : fmEv T l G d y (pc + 1) L (.int x :: st) M Q) : fmEv T l G d y pc L st M Q := fm_iload_n (by rw [hi]; exact hv) hdg k
theorem fm_lloadn {n : Fin 4} {x : Int64} (i : Nat) (hi : (n : Nat) = i) (hv : L[i]? = some (some (.long x))) (hdg : decode y.2.1 pc = .ok (.lload_n n, 1)) (k : fmEv T l G d y (pc + 1) L (.long x :: st) M Q) : fmEv T l G d y pc L st M Q := fm_lload_n (by rw [hi]; exact hv) hdg k
theorem fm_aloadn {n : Fin 4} {x : Nat} (i : Nat) (hi : (n : Nat) = i) (hv : L[i]? = some (some (.ref x))) (hdg : decode y.2.1 pc = .ok (.aload_n n, 1)) (k : fmEv T l G d y (pc + 1) L (.ref x :: st) M Q) : fmEv T l G d y pc L st M Q := fm_aload_n (by rw [hi]; exact hv) hdg k
theorem fm_istoren {n : Fin 4} {x : Int32} (i : Nat) (hi : (n : Nat) = i) (hn : i < y.2.2.1) (h2 : fmNo2 L i = true) (hdg : decode y.2.1 pc = .ok (.istore_n n, 1)) (k : fmEv T l G d y (pc + 1) (L.set i (some (.int x))) st M Q) : fmEv T l G d y pc L (.int x :: st) M Q := by
  subst hi; exact fm_istore_n hn h2 hdg k
theorem fm_astoren {n : Fin 4} {x : Nat} (i : Nat) (hi : (n : Nat) = i) (hn : i < y.2.2.1) (h2 : fmNo2 L i = true) (hdg : decode y.2.1 pc = .ok (.astore_n n, 1)) (k : fmEv T l G d y (pc + 1) (L.set i (some (.ref x))) st M Q) : fmEv T l G d y pc L (.ref x :: st) M Q := by
  subst hi; exact fm_astore_n hn h2 hdg k
theorem fm_lstoren {n : Fin 4} {x : Int64} (i : Nat) (hi : (n : Nat) = i) (hn : i + 1 < y.2.2.1) (h2 : fmNo2 L i = true) (hdg : decode y.2.1 pc = .ok (.lstore_n n, 1)) (k : fmEv T l G d y (pc + 1) ((L.set i (some (.long x))).set (i + 1) none) st M Q) : fmEv T l G d y pc L (.long x :: st) M Q := by
  subst hi; exact fm_lstore_n hn h2 hdg k
theorem fm_iincc (i : Nat) {n : Int} {x : Int32} (c : Int32) (hc : Int32.ofInt n = c) (hl : L[i]? = some (some (.int x))) (hn : i < y.2.2.1) (h2 : fmNo2 L i = true) (hdg : decode y.2.1 pc = .ok (.iinc i n, 3)) (k : fmEv T l G d y (pc + 3) (L.set i (some (.int (x + c)))) st M Q) : fmEv T l G d y pc L st M Q := fm_iinc hl (by rw [hc]) hn h2 hdg k
/-- a number on the stack gets a name -/
theorem fm_top {x : Int32} (k : ∀ z : Int32, z = x → fmEv T l G d y pc L (.int z :: st) M Q) : fmEv T l G d y pc L (.int x :: st) M Q := k x rfl
end FmRows2
-- reads behind writes
theorem fmI_s (M : fmM) (k j : Nat) (v : Int32) : (fmI M k j v).1 k j = v := by simp [fmI, upd]
theorem fmI_j (M : fmM) {k j j' : Nat} (v : Int32) (h : j' ≠ j) : (fmI M k j v).1 k j' = M.1 k j' := by simp [fmI, upd, h]
theorem fmI_k (M : fmM) {k j k' : Nat} (v : Int32) (h : k' ≠ k) : (fmI M k j v).1 k' = M.1 k' := by simp [fmI, h]
theorem fmI_2 (M : fmM) (k j : Nat) (v : Int32) : (fmI M k j v).2 = M.2 := rfl
theorem fmJ_s (M : fmM) (k j : Nat) (v : Int64) : (fmJ M k j v).2 k j = v := by simp [fmJ, vp_updL]
theorem fmJ_j (M : fmM) {k j j' : Nat} (v : Int64) (h : j' ≠ j) : (fmJ M k j v).2 k j' = M.2 k j' := by simp [fmJ, vp_updL, h]
theorem fmJ_k (M : fmM) {k j k' : Nat} (v : Int64) (h : k' ≠ k) : (fmJ M k j v).2 k' = M.2 k' := by simp [fmJ, h]
theorem fmJ_1 (M : fmM) (k j : Nat) (v : Int64) : (fmJ M k j v).1 = M.1 := rfl
theorem fmA_s (M : fmM) (k : Nat) (f : Nat → Int32) : (fmA M k f).1 k = f := by simp [fmA]
theorem fmA_k (M : fmM) {k k' : Nat} (f : Nat → Int32) (h : k' ≠ k) : (fmA M k f).1 k' = M.1 k' := by simp [fmA, h]
theorem fmA_2 (M : fmM) (k : Nat) (f : Nat → Int32) : (fmA M k f).2 = M.2 := rfl
theorem fmB_s (M : fmM) (k : Nat) (f : Nat → Int64) : (fmB M k f).2 k = f := by simp [fmB]
theorem fmB_k (M : fmM) {k k' : Nat} (f : Nat → Int64) (h : k' ≠ k) : (fmB M k f).2 k' = M.2 k' := by simp [fmB, h]
theorem fmB_1 (M : fmM) (k : Nat) (f : Nat → Int64) : (fmB M k f).1 = M.1 := rfl
-- the throws of LifeDrawer
theorem fm_atI : ∀ w ∈ (fm_atX RX10 380 fmIAE 7 prog_18_method_2_code ["java/lang/RuntimeException", "java/lang/Exception"]).filter goodWord, w ∈ fmWs := fun w h => List.mem_filter.mpr ⟨List.mem_append_right _ ((List.mem_append.mp (goodIn_r (big := (tables_1_1 ++ (tables_1_3))) ((fm_atX RX10 380 fmIAE 7 prog_18_method_2_code ["java/lang/RuntimeException", "java/lang/Exception"]).filter goodWord) [15, 387, 396, 399, 402, 404, 388, 389, 32, 33, 390, 395, 400, 420, 377, 421, 379, 422, 381, 391, 393, 383, 416, 417, 419, 383, 407, 408, 409, 410, 410, 411, 412, 413, 413, 414, 415, 416, 406, 366, 374, 375, 376, 378, 380, 382, 386, 385, 384] (by decide +kernel) (by decide +kernel) w h).1).elim (fun h => tm_1 h) (fun h => tm_3 h)), (List.mem_filter.mp h).2⟩
theorem fm_noI : ∀ w ∈ (fm_atX RX10 380 fmIAE 7 prog_18_method_2_code ["java/lang/RuntimeException", "java/lang/Exception"]).filter (fun w => !goodWord w), w ∈ [Cond.castable fmIAE fmIAE, Cond.declares (Bundle.initS "java/lang/RuntimeException"), Cond.declares (Bundle.initS "java/lang/Exception"), Cond.declares (Bundle.initS Bundle.tN)] := by decide +kernel
theorem fm_goI : ∀ w ∈ Cond.classLink RX10 376 fmIAE :: Cond.initialized fmIAE :: (fm_atX RX10 380 fmIAE 7 prog_18_method_2_code ["java/lang/RuntimeException", "java/lang/Exception"]), vx_ot w = true := by decide +kernel
theorem fm_klI : Cond.classLink RX10 376 fmIAE ∈ fmWs := fm_c3 125 (by eq_refl) rfl
theorem fm_knI : Cond.initialized fmIAE ∈ fmWs := fm_c1 18 (by eq_refl) rfl
theorem fm_thrI {T : fmT} {l : Launch} {G : fmG} {d : Nat} {c9 : ByteArray} {n9 : String} {ds9 : String} {ml : Nat} {rt : Option FieldType} {pc : Nat} {L : List (Option Value)} {M : fmM} {Q : fmR → fmM → Prop} (d0 : decode c9 pc = .ok (.new 376, 3)) (d3 : decode c9 (pc + 3) = .ok (.dup, 1)) (d4 : decode c9 (pc + 4) = .ok (.ldc_w 378, 3)) (d7 : decode c9 (pc + 7) = .ok (.invokespecial 380, 3)) (d10 : decode c9 (pc + 10) = .ok (.athrow, 1)) (hq : Q (.inr fmIAE) M) : fmEv T l G d (⟨RX10, n9, ds9⟩, c9, ml, rt) pc L [] M Q :=
  fm_throw (B9 := [Cond.castable fmIAE fmIAE, Cond.declares (Bundle.initS "java/lang/RuntimeException"), Cond.declares (Bundle.initS "java/lang/Exception"), Cond.declares (Bundle.initS Bundle.tN)]) (text := "not within its bounds") (names := ["java/lang/RuntimeException", "java/lang/Exception"]) (ix := 7) (rx := prog_18_method_2_code) (sa := fun G => G.2.2.2.1 1) (by decide +kernel) (by decide +kernel) (by decide +kernel) (by decide +kernel) (by decide +kernel) (by decide +kernel) (by decide) fm_klI fm_knI (fun A s h => h.2.2.2.2.2.2.1) (fun A s args h => vx_c (fmCa.use h.2.2.2.1.1) (vx_c (fmDe.use h.2.2.2.1.2.2.2.1) (vx_c (fmDe.use h.2.2.2.1.2.2.2.2.1) (vx_c (fmDe.use h.2.2.2.1.2.2.2.2.2) vx_n)))) fm_atI fm_noI fm_goI (by decide) d0 d3 d4 d7 d10 hq
theorem fm_atN : ∀ w ∈ (fm_atX RX10 373 fmNSE 13 prog_30_method_4_code ["java/lang/RuntimeException", "java/lang/Exception"]).filter goodWord, w ∈ fmWs := fun w h => List.mem_filter.mpr ⟨List.mem_append_right _ ((List.mem_append.mp (goodIn_r (big := (tables_1_1 ++ (tables_1_3 ++ (tables_1_4)))) ((fm_atX RX10 373 fmNSE 13 prog_30_method_4_code ["java/lang/RuntimeException", "java/lang/Exception"]).filter goodWord) [15, 387, 396, 399, 402, 404, 388, 389, 32, 33, 390, 395, 400, 420, 377, 421, 379, 422, 381, 391, 393, 383, 416, 417, 419, 383, 713, 714, 715, 410, 410, 411, 412, 413, 413, 414, 415, 416, 712, 703, 705, 398, 706, 707, 708, 709, 386, 385, 710] (by decide +kernel) (by decide +kernel) w h).1).elim (fun h => tm_1 h) (fun h => (List.mem_append.mp h).elim (fun h => tm_3 h) (fun h => tm_4 h))), (List.mem_filter.mp h).2⟩
theorem fm_noN : ∀ w ∈ (fm_atX RX10 373 fmNSE 13 prog_30_method_4_code ["java/lang/RuntimeException", "java/lang/Exception"]).filter (fun w => !goodWord w), w ∈ [Cond.castable fmNSE fmNSE, Cond.declares (Bundle.initS "java/lang/RuntimeException"), Cond.declares (Bundle.initS "java/lang/Exception"), Cond.declares (Bundle.initS Bundle.tN)] := by decide +kernel
theorem fm_goN : ∀ w ∈ Cond.classLink RX10 369 fmNSE :: Cond.initialized fmNSE :: (fm_atX RX10 373 fmNSE 13 prog_30_method_4_code ["java/lang/RuntimeException", "java/lang/Exception"]), vx_ot w = true := by decide +kernel
theorem fm_klN : Cond.classLink RX10 369 fmNSE ∈ fmWs := fm_c4 222 (by eq_refl) rfl
theorem fm_knN : Cond.initialized fmNSE ∈ fmWs := fm_c1 24 (by eq_refl) rfl
theorem fm_thrN {T : fmT} {l : Launch} {G : fmG} {d : Nat} {c9 : ByteArray} {n9 : String} {ds9 : String} {ml : Nat} {rt : Option FieldType} {pc : Nat} {L : List (Option Value)} {M : fmM} {Q : fmR → fmM → Prop} (d0 : decode c9 pc = .ok (.new 369, 3)) (d3 : decode c9 (pc + 3) = .ok (.dup, 1)) (d4 : decode c9 (pc + 4) = .ok (.ldc_w 371, 3)) (d7 : decode c9 (pc + 7) = .ok (.invokespecial 373, 3)) (d10 : decode c9 (pc + 10) = .ok (.athrow, 1)) (hq : Q (.inr fmNSE) M) : fmEv T l G d (⟨RX10, n9, ds9⟩, c9, ml, rt) pc L [] M Q :=
  fm_throw (B9 := [Cond.castable fmNSE fmNSE, Cond.declares (Bundle.initS "java/lang/RuntimeException"), Cond.declares (Bundle.initS "java/lang/Exception"), Cond.declares (Bundle.initS Bundle.tN)]) (text := "no such life") (names := ["java/lang/RuntimeException", "java/lang/Exception"]) (ix := 13) (rx := prog_30_method_4_code) (sa := fun G => G.2.2.2.1 0) (by decide +kernel) (by decide +kernel) (by decide +kernel) (by decide +kernel) (by decide +kernel) (by decide +kernel) (by decide) fm_klN fm_knN (fun A s h => h.2.2.2.2.2.1) (fun A s args h => vx_c (fmCa.use h.2.2.2.1.2.1) (vx_c (fmDe.use h.2.2.2.1.2.2.2.1) (vx_c (fmDe.use h.2.2.2.1.2.2.2.2.1) (vx_c (fmDe.use h.2.2.2.1.2.2.2.2.2) vx_n)))) fm_atN fm_noN fm_goN (by decide) d0 d3 d4 d7 d10 hq
-- java.lang.Math
section FmMath
variable {T : fmT} {l : Launch} {G : fmG} {d : Nat} {y : fmY} {pc idx : Nat} {L : List (Option Value)} {st : List Value} {M : fmM} {Q : fmR → fmM → Prop}
theorem fm_mmax {x z : Int32} (hc : fmCs y.1.cls idx qJ9_max_7cf53 2) (hcat : (st.map fun v => v.category).sum ≤ 8) (hdg : decode y.2.1 pc = .ok (.invokestatic idx, 3)) (k : fmEv T l G d y (pc + 3) L (.int (if x < z then z else x) :: st) M Q) : fmEv T l G d y pc L (.int z :: .int x :: st) M Q := by
  obtain ⟨o, M', hq, k⟩ := k
  refine ⟨o, M', hq, ?_⟩
  intro p e s m args below meth c H locs A rest ls hst hF hE hA hP hS hL
  have ok : ∀ w ∈ fmWs, w.before args s = true := fun w h => hF.2.2.2.2.2.1 w (List.mem_cons_of_mem _ h)
  have h4 : Cond.code Lib.Math.max.name Lib.Math.max.code 2 (some .int) ∈ fmWs := hc.1.2.2.1
  exact va_mmax hF.1 hF.2.1 (by rw [hF.2.2.1, hL.1]) hF.2.2.2.2.1 (ok _ hc.1.1) (ok _ hc.2) (ok _ hc.1.2.1) (ok _ h4) (by show 1 ≤ d + 10; omega) (by show _ ≤ 60 * d + 200; omega) (Nat.zero_le _) (Nat.zero_le _) hdg (k p e s m args below meth c H locs A rest ls hst hF hE hA hP hS hL)
theorem fm_mmin {x z : Int32} (hc : fmCs y.1.cls idx qJ9_min_7cf53 2) (hcat : (st.map fun v => v.category).sum ≤ 8) (hdg : decode y.2.1 pc = .ok (.invokestatic idx, 3)) (k : fmEv T l G d y (pc + 3) L (.int (if z < x then z else x) :: st) M Q) : fmEv T l G d y pc L (.int z :: .int x :: st) M Q := by
  obtain ⟨o, M', hq, k⟩ := k
  refine ⟨o, M', hq, ?_⟩
  intro p e s m args below meth c H locs A rest ls hst hF hE hA hP hS hL
  have ok : ∀ w ∈ fmWs, w.before args s = true := fun w h => hF.2.2.2.2.2.1 w (List.mem_cons_of_mem _ h)
  have h4 : Cond.code Lib.Math.min.name Lib.Math.min.code 2 (some .int) ∈ fmWs := hc.1.2.2.1
  exact va_mmin hF.1 hF.2.1 (by rw [hF.2.2.1, hL.1]) hF.2.2.2.2.1 (ok _ hc.1.1) (ok _ hc.2) (ok _ hc.1.2.1) (ok _ h4) (by show 1 ≤ d + 10; omega) (by show _ ≤ 60 * d + 200; omega) (Nat.zero_le _) (Nat.zero_le _) hdg (k p e s m args below meth c H locs A rest ls hst hF hE hA hP hS hL)
end FmMath
end
-- P 10b
section
-- TEXTS: String.length() and charAt(i) over the class's five constants
section FmStr
variable {T : fmT} {l : Launch} {G : fmG} {d d' : Nat} {y y' : fmY} {pc idx n : Nat} {L : List (Option Value)} {st : List Value} {M : fmM} {Q : fmR → fmM → Prop}
theorem fm_i2c {x : Int32} (hdg : decode y.2.1 pc = .ok (.i2c, 1)) (k : fmEv T l G d y (pc + 1) L (.int (x.toUInt32 % 65536).toInt32 :: st) M Q) : fmEv T l G d y pc L (.int x :: st) M Q := fm_row (fun _ _ _ _ _ _ _ _ _ _ _ _ _ _ _ hx hb hL kk => lv_i2c hx hb hdg rfl kk) k
/-- a row over what stays true -/
theorem fm_rowE {pc' : Nat} {st' : List Value} (h : ∀ (p : Program) (e : Env) (R : Room) (s : State) (m : MethodId) (args : Array Value) (below : List Frame) (meth : Method) (c : Code) (H : Heap) (locs : List Loc) (cells slots : Nat) (Qf : State → Prop) (ls : Array Slot) (A : Nat → Prop), fmFix p s m args meth c y → fmEnv G A s → va_S A s.heap H locs → W p l e R s m args below meth c H locs cells slots Qf (F0 m pc' ls st') → W p l e R s m args below meth c H locs cells slots Qf (F0 m pc ls st))
    (k : fmEv T l G d y pc' L st' M Q) : fmEv T l G d y pc L st M Q := by
  obtain ⟨o, M', hq, k⟩ := k
  refine ⟨o, M', hq, ?_⟩
  intro p e s m args below meth c H locs A rest ls hst hF hE hA hP hS hL
  exact h p e _ s m args below meth c H locs 0 0 _ ls A hF hE hS (k p e s m args below meth c H locs A rest ls hst hF hE hA hP hS hL)
theorem fmEnv.str {A : Nat → Prop} {s : State} (h : fmEnv G A s) : vk_S 5 fmLen fmByt G.2.2.2.1 G.2.2.2.2 A s s.heap := h.2.2.2.2.1
theorem fmEnv.cs {A : Nat → Prop} {s : State} (h : fmEnv G A s) : fmSt G A s s.heap := h.2.2.2.2.2.2.2.2.2.2
theorem fm_sval {i : Nat} (hi : i < 5) (hw : Cond.fieldLink y.1.cls idx "java/lang/String" "value" "[B" ∈ fmWs) (hdg : decode y.2.1 pc = .ok (.getfield idx, 3)) (k : fmEv T l G d y (pc + 3) L (.ref (G.2.2.2.2 i) :: st) M Q) : fmEv T l G d y pc L (.ref (G.2.2.2.1 i) :: st) M Q :=
  fm_rowE (fun p e R s m args below meth c H locs cells slots Qf ls A hF hE hS kk => vk_getf hF.1 hF.2.1 (hE.str.1 i hi).2.2.1 hS hF.2.2.2.2.1 (hF.2.2.2.2.2.1 _ (List.mem_cons_of_mem _ hw)) (fun _ h => h) hdg kk) k
theorem fm_scod {i : Nat} (hi : i < 5) (hw : Cond.fieldLink y.1.cls idx "java/lang/String" "coder" "B" ∈ fmWs) (hdg : decode y.2.1 pc = .ok (.getfield idx, 3)) (k : fmEv T l G d y (pc + 3) L (.int 0 :: st) M Q) : fmEv T l G d y pc L (.ref (G.2.2.2.1 i) :: st) M Q :=
  fm_rowE (fun p e R s m args below meth c H locs cells slots Qf ls A hF hE hS kk => vk_getf hF.1 hF.2.1 (hE.str.1 i hi).2.1 hS hF.2.2.2.2.1 (hF.2.2.2.2.2.1 _ (List.mem_cons_of_mem _ hw)) (fun _ h => h) hdg kk) k
theorem fm_slen {i : Nat} {v : Int32} (hi : i < 5) (hv : Int32.ofNat (fmLen.getD i 0) = v) (hdg : decode y.2.1 pc = .ok (.arraylength, 1)) (k : fmEv T l G d y (pc + 1) L (.int v :: st) M Q) : fmEv T l G d y pc L (.ref (G.2.2.2.2 i) :: st) M Q :=
  fm_rowE (fun p e R s m args below meth c H locs cells slots Qf ls A hF hE hS kk => va_tlen hF.1 hF.2.1 (hE.str.1 i hi).2.2.2 hS hv hdg kk) k
theorem fm_sbald {i : Nat} {x : Int32} (hi : i < 5) (hin : vp_in x (fmLen.getD i 0)) (hdg : decode y.2.1 pc = .ok (.baload, 1)) (k : fmEv T l G d y (pc + 1) L (.int ((fmByt.getD i []).getD x.toNatClampNeg 0) :: st) M Q) : fmEv T l G d y pc L (.int x :: .ref (G.2.2.2.2 i) :: st) M Q :=
  fm_rowE (fun p e R s m args below meth c H locs cells slots Qf ls A hF hE hS kk => va_tb hF.1 hF.2.1 (hE.str.1 i hi).2.2.2 hS hin rfl hdg kk) k
theorem fm_gcs (hw : Cond.fieldLink y.1.cls idx "java/lang/String" "COMPACT_STRINGS" "Z" ∈ fmWs) (hdg : decode y.2.1 pc = .ok (.getstatic idx, 3)) (k : fmEv T l G d y (pc + 3) L (.int 1 :: st) M Q) : fmEv T l G d y pc L st M Q :=
  fm_rowE (fun p e R s m args below meth c H locs cells slots Qf ls A hF hE hS kk => va_gets hF.1 hF.2.1 hE.cs.1 hS hF.2.2.2.2.1 (hF.2.2.2.2.2.1 _ (List.mem_cons_of_mem _ hw)) (fun _ h => h) hdg kk) k
theorem fm_gsi (hw : Cond.fieldLink y.1.cls idx "jdk/internal/util/Preconditions" "SIOOBE_FORMATTER" "Ljava/util/function/BiFunction;" ∈ fmWs) (hdg : decode y.2.1 pc = .ok (.getstatic idx, 3)) (k : fmEv T l G d y (pc + 3) L (fmSi G :: st) M Q) : fmEv T l G d y pc L st M Q :=
  fm_rowE (fun p e R s m args below meth c H locs cells slots Qf ls A hF hE hS kk => va_gets hF.1 hF.2.1 hE.cs.2 hS hF.2.2.2.2.1 (hF.2.2.2.2.2.1 _ (List.mem_cons_of_mem _ hw)) (fun _ h => h) hdg kk) k
theorem fm_nreturn {v : Int32} (ty : FieldType) (hr : y.2.2.2 = some ty) (hv : narrow ty (.int v) = .int v) (hdg : decode y.2.1 pc = .ok (.ireturn, 1)) (hq : Q (.inl (some (.int v))) M) : fmEv T l G d y pc L [.int v] M Q := by
  refine ⟨_, _, hq, ?_⟩
  intro p e s m args below meth c H locs A rest ls hst hF hE hA hP hS hL
  have hlocks := hF.2.2.2.2.2.2.1
  exact vx_ret (W.zret (ty := ty) hF.1 hF.2.1 (hF.2.2.2.1.trans hr) hv (fun t ht hW => ⟨⟨_, rfl, rfl⟩, by rw [ht]; exact hP, hS.F ht⟩) hS.2.2 hdg)
/-- a call of a String's method -/
theorem fm_invT {i : Nat} {As args' : List Value} (hi : i < 5) (hc : fmCb y.1.cls idx y' n) (hm : Cond.instanceMethod y'.1 ∈ fmWs) (hs : Cond.selects "java/lang/String" y'.1 y'.1 ∈ fmWs) (hn : As.length = n) (hargs : args' = .ref (G.2.2.2.1 i) :: As) {st0 : List Value} (hst0 : st0 = As.reverse ++ .ref (G.2.2.2.1 i) :: st) (hcat : (st.map fun v => v.category).sum ≤ 8) (hd : d' + 1 ≤ d) (hdg : decode y.2.1 pc = .ok (.invokevirtual idx, 3)) (hg : fmGood T l G d' y' args' M (fmThen T l G d y (pc + 3) L st Q)) : fmEv T l G d y pc L st0 M Q := by
  subst hst0
  subst hargs
  refine fm_after ?_ hg
  intro o M1 o2 hM hcost p e s m args below meth c H locs A rest ls hst hF hE hA hP hS hL
  have hts := hF.2.2.2.2.2.1
  have ok : ∀ w ∈ fmWs, w.before args s = true := fun w h => hts w (List.mem_cons_of_mem _ h)
  have hrecv := vk_recv hE.str hi hS
  refine vx_runV (C := "java/lang/String") (As := As) (rest := st) ⟨hF.1, hF.2.1, hF.2.2.1, hF.2.2.2.2.1, hts⟩ (hM A rest) ⟨fm_callB hd hc hts, ok _ hm, ok _ hs⟩ ⟨fmPc.blind, hrecv, fun U hU hW => fm_pre hE hA hP hS hU hW⟩ rfl hn hL.1 rfl (lv_room hcat) hdg ⟨?_, ?_⟩
  · cases o with
    | inl v => exact Nat.zero_le _
    | inr E => rw [hcost E rfl]; simp [fmRm, fmMc]
  · cases o with
    | inl v => exact Nat.zero_le _
    | inr E => rw [hcost E rfl]; simp [fmRm, fmMs]
theorem fm_ldcT {i : Nat} {tx : String} (hR : ∀ (A : Nat → Prop) (s : State), fmEnv G A s → vk_R y.1.cls idx tx (G.2.2.2.1 i) s) (hdg : decode y.2.1 pc = .ok (.ldc idx, 2)) (k : fmEv T l G d y (pc + 2) L (.ref (G.2.2.2.1 i) :: st) M Q) : fmEv T l G d y pc L st M Q :=
  fm_rowE (fun p e R s m args below meth c H locs cells slots Qf ls A hF hE hS kk => va_ldcS hF.1 hF.2.1 hF.2.2.2.2.1 (hR A s hE) hdg kk) k
end FmStr
end
-- P 10c
section
theorem fm_topE {T : fmT} {l : Launch} {G : fmG} {d : Nat} {y : fmY} {pc : Nat} {L : List (Option Value)} {st : List Value} {M : fmM} {Q : fmR → fmM → Prop} {x v : Int32} (h : x = v) (k : fmEv T l G d y pc L (.int v :: st) M Q) : fmEv T l G d y pc L (.int x :: st) M Q := by rw [h]; exact k
theorem fm_stE {T : fmT} {l : Launch} {G : fmG} {d : Nat} {y : fmY} {pc : Nat} {L : List (Option Value)} {st st' : List Value} {M : fmM} {Q : fmR → fmM → Prop} (h : st = st') (k : fmEv T l G d y pc L st' M Q) : fmEv T l G d y pc L st M Q := by rw [h]; exact k
theorem fs_v : Cond.fieldLink "java/lang/String" 9 "java/lang/String" "value" "[B" ∈ fmWs := fm_c9 42 (by eq_refl) rfl
theorem fs_c : Cond.fieldLink "java/lang/String" 15 "java/lang/String" "coder" "B" ∈ fmWs := fm_c9 43 (by eq_refl) rfl
theorem fs_k : Cond.fieldLink "java/lang/String" 38 "java/lang/String" "COMPACT_STRINGS" "Z" ∈ fmWs := fm_c3 230 (by eq_refl) rfl
theorem fs_s : Cond.fieldLink "java/lang/String" 1053 "jdk/internal/util/Preconditions" "SIOOBE_FORMATTER" "Ljava/util/function/BiFunction;" ∈ fmWs := fm_c4 6 (by eq_refl) rfl

theorem sb_X7_53 : fmCb RX7 53 qJ0_length_8abf5 0 := ⟨fm_c3 222 (by eq_refl) rfl, ni_J0, nc_J0_length_8abf5, nd_J0_length_8abf5, by decide⟩
theorem sb_X7_57 : fmCb RX7 57 qJ0_charAt_5068e 1 := ⟨fm_c3 232 (by eq_refl) rfl, ni_J0, nc_J0_charAt_5068e, nd_J0_charAt_5068e, by decide⟩
theorem sb_J0_335 : fmCb RJ0 335 qJ0_coder_7d493 0 := ⟨fm_c3 226 (by eq_refl) rfl, ni_J0, nc_J0_coder_7d493, nd_J0_coder_7d493, by decide⟩
theorem sb_J0_492 : fmCb RJ0 492 qJ0_isLatin1_aae02 0 := ⟨fm_c3 236 (by eq_refl) rfl, ni_J0, nc_J0_isLatin1_aae02, nd_J0_isLatin1_aae02, by decide⟩
theorem nz_J0_charAt_5068e : Cond.selects "java/lang/String" yJ0_charAt_5068e yJ0_charAt_5068e ∈ fmWs := fm_c3 234 (by eq_refl) rfl
theorem nz_J0_coder_7d493 : Cond.selects "java/lang/String" yJ0_coder_7d493 yJ0_coder_7d493 ∈ fmWs := fm_c3 228 (by eq_refl) rfl
theorem nz_J0_isLatin1_aae02 : Cond.selects "java/lang/String" yJ0_isLatin1_aae02 yJ0_isLatin1_aae02 ∈ fmWs := fm_c3 238 (by eq_refl) rfl
theorem nz_J0_length_8abf5 : Cond.selects "java/lang/String" yJ0_length_8abf5 yJ0_length_8abf5 ∈ fmWs := fm_c3 224 (by eq_refl) rfl
theorem fm_invT0 {T : fmT} {l : Launch} {G : fmG} {d d' : Nat} {y y' : fmY} {pc idx : Nat} {L : List (Option Value)} {st : List Value} {M : fmM} {Q : fmR → fmM → Prop} {i : Nat} (hi : i < 5) (hc : fmCb y.1.cls idx y' 0) (hm : Cond.instanceMethod y'.1 ∈ fmWs) (hs : Cond.selects "java/lang/String" y'.1 y'.1 ∈ fmWs) (hcat : (st.map fun v => v.category).sum ≤ 8) (hd : d' + 1 ≤ d) (hdg : decode y.2.1 pc = .ok (.invokevirtual idx, 3)) (hg : fmGood T l G d' y' [.ref (G.2.2.2.1 i)] M (fmThen T l G d y (pc + 3) L st Q)) : fmEv T l G d y pc L (.ref (G.2.2.2.1 i) :: st) M Q := fm_invT (As := []) hi hc hm hs rfl rfl rfl hcat hd hdg hg
theorem fm_invT1 {T : fmT} {l : Launch} {G : fmG} {d d' : Nat} {y y' : fmY} {pc idx : Nat} {L : List (Option Value)} {st : List Value} {M : fmM} {Q : fmR → fmM → Prop} {i : Nat} {a0 : Value} (hi : i < 5) (hc : fmCb y.1.cls idx y' 1) (hm : Cond.instanceMethod y'.1 ∈ fmWs) (hs : Cond.selects "java/lang/String" y'.1 y'.1 ∈ fmWs) (hcat : (st.map fun v => v.category).sum ≤ 8) (hd : d' + 1 ≤ d) (hdg : decode y.2.1 pc = .ok (.invokevirtual idx, 3)) (hg : fmGood T l G d' y' [.ref (G.2.2.2.1 i), a0] M (fmThen T l G d y (pc + 3) L st Q)) : fmEv T l G d y pc L (a0 :: .ref (G.2.2.2.1 i) :: st) M Q := fm_invT (As := [a0]) hi hc hm hs rfl rfl rfl hcat hd hdg hg
def chE (i k : Nat) : Int32 := (fmByt.getD i []).getD k 0 &&& 255
theorem fmLen_lt : ∀ i, i < 5 → fmLen.getD i 0 < 64 := by decide
theorem ne10 : ¬ (1 : Int32) = 0 := by decide

set_option maxRecDepth 20000 in
theorem c_coder {T : fmT} {l : Launch} {G : fmG} {M : fmM} {Q : fmR → fmM → Prop} (hst : l.stackTraces = false) (i : Nat) (hi : i < 5) (hq : Q (.inl (some (.int 0))) M) : fmGood T l G 0 qJ0_coder_7d493 [.ref (G.2.2.2.1 i)] M Q := by
  refine fmGood_of hst (by decide +kernel) (Nat.le_of_ble_eq_true rfl) ?_
  show fmEv T l G 0 qJ0_coder_7d493 0 [some (.ref (G.2.2.2.1 i))] [] M Q
  refine fm_gcs (pc := 0) fs_k (fm_dec dtJ0_coder_7d493 0 rfl) ?_
  refine fm_if_eq (pc := 3) 13 (by decide) (fm_dec dtJ0_coder_7d493 1 rfl) (fun hc3 => by exfalso; exact ne10 hc3) (fun _ => ?_)
  refine fm_aloadn (pc := 6) (n := 0) 0 rfl rfl (fm_dec dtJ0_coder_7d493 2 rfl) ?_
  refine fm_scod (i := i) (pc := 7) hi fs_c (fm_dec dtJ0_coder_7d493 3 rfl) ?_
  refine fm_goto (pc := 10) 14 (by decide) (fm_dec dtJ0_coder_7d493 4 rfl) ?_
  exact fm_nreturn (pc := 14) .byte rfl rfl (fm_dec dtJ0_coder_7d493 6 rfl) hq

set_option maxRecDepth 20000 in
theorem c_latin {T : fmT} {l : Launch} {G : fmG} {M : fmM} {Q : fmR → fmM → Prop} (hst : l.stackTraces = false) (i : Nat) (hi : i < 5) (hq : Q (.inl (some (.int 1))) M) : fmGood T l G 0 qJ0_isLatin1_aae02 [.ref (G.2.2.2.1 i)] M Q := by
  refine fmGood_of hst (by decide +kernel) (Nat.le_of_ble_eq_true rfl) ?_
  show fmEv T l G 0 qJ0_isLatin1_aae02 0 [some (.ref (G.2.2.2.1 i))] [] M Q
  refine fm_gcs (pc := 0) fs_k (fm_dec dtJ0_isLatin1_aae02 0 rfl) ?_
  refine fm_if_eq (pc := 3) 17 (by decide) (fm_dec dtJ0_isLatin1_aae02 1 rfl) (fun hc3 => by exfalso; exact ne10 hc3) (fun _ => ?_)
  refine fm_aloadn (pc := 6) (n := 0) 0 rfl rfl (fm_dec dtJ0_isLatin1_aae02 2 rfl) ?_
  refine fm_scod (i := i) (pc := 7) hi fs_c (fm_dec dtJ0_isLatin1_aae02 3 rfl) ?_
  refine fm_if_ne (pc := 10) 17 (by decide) (fm_dec dtJ0_isLatin1_aae02 4 rfl) (fun hc10 => by exfalso; exact hc10 rfl) (fun _ => ?_)
  refine fm_iconst (pc := 13) (v := 1) (by decide) (fm_dec dtJ0_isLatin1_aae02 5 rfl) ?_
  refine fm_goto (pc := 14) 18 (by decide) (fm_dec dtJ0_isLatin1_aae02 6 rfl) ?_
  exact fm_zreturn (pc := 18) rfl rfl (fm_dec dtJ0_isLatin1_aae02 8 rfl) hq

set_option maxRecDepth 20000 in
theorem c_strlen {T : fmT} {l : Launch} {G : fmG} {M : fmM} {Q : fmR → fmM → Prop} (hst : l.stackTraces = false) (i : Nat) (hi : i < 5) (hq : Q (.inl (some (.int (nI (fmLen.getD i 0))))) M) : fmGood T l G 1 qJ0_length_8abf5 [.ref (G.2.2.2.1 i)] M Q := by
  refine fmGood_of hst (by decide +kernel) (Nat.le_of_ble_eq_true rfl) ?_
  show fmEv T l G 1 qJ0_length_8abf5 0 [some (.ref (G.2.2.2.1 i))] [] M Q
  refine fm_aloadn (pc := 0) (n := 0) 0 rfl rfl (fm_dec dtJ0_length_8abf5 0 rfl) ?_
  refine fm_sval (i := i) (pc := 1) hi fs_v (fm_dec dtJ0_length_8abf5 1 rfl) ?_
  refine fm_slen (i := i) (pc := 4) hi rfl (fm_dec dtJ0_length_8abf5 2 rfl) ?_
  refine fm_aloadn (pc := 5) (n := 0) 0 rfl rfl (fm_dec dtJ0_length_8abf5 3 rfl) ?_
  refine fm_invT0 (i := i) (d' := 0) (pc := 6) hi sb_J0_335 nm_J0_coder_7d493 nz_J0_coder_7d493 (Nat.le_of_ble_eq_true rfl) (by decide) (fm_dec dtJ0_length_8abf5 4 rfl) ?_
  refine c_coder hst i hi ?_
  refine fm_then1 ?_
  refine fm_ishr (pc := 9) (fm_dec dtJ0_length_8abf5 5 rfl) ?_
  refine fm_topE (v := nI (fmLen.getD i 0)) (sc_shr0 (by have := fmLen_lt i hi; omega)) ?_
  exact fm_ireturn (pc := 10) rfl (fm_dec dtJ0_length_8abf5 6 rfl) hq

theorem fmSi_cat (G : fmG) : (fmSi G).category = 1 := by unfold fmSi; split <;> rfl
theorem fmSi_len (G : fmG) (a b : Int32) : (lg_sl [.int a, .int b, fmSi G]).length = 3 := by
  unfold fmSi; split <;> rfl
theorem fmSi_args (G : fmG) (a b : Int32) : fmArgs [.int a, .int b, fmSi G] = [some (.int a), some (.int b), some (fmSi G)] := by
  unfold fmSi; split <;> rfl
set_option maxRecDepth 20000 in
theorem c_chk3 {T : fmT} {l : Launch} {G : fmG} {M : fmM} {Q : fmR → fmM → Prop} (hst : l.stackTraces = false) (k n : Nat) (hk : k < n) (hn : n < 64) (hq : Q (.inl (some (.int (nI k)))) M) : fmGood T l G 0 qJ3_checkIndex_8e157 [.int (nI k), .int (nI n), fmSi G] M Q := by
  refine fmGood_of hst (by decide +kernel) (by rw [fmSi_len]; decide) ?_
  rw [fmSi_args]
  show fmEv T l G 0 qJ3_checkIndex_8e157 0 [some (.int (nI k)), some (.int (nI n)), some (fmSi G)] [] M Q
  refine fm_iloadn (pc := 0) (n := 0) 0 rfl rfl (fm_dec dtJ3_checkIndex_8e157 0 rfl) ?_
  refine fm_if_lt (pc := 1) 9 (by decide) (fm_dec dtJ3_checkIndex_8e157 1 rfl) (fun hc1 => by exfalso; exact nI_pos (by omega) hc1) (fun _ => ?_)
  refine fm_iloadn (pc := 4) (n := 0) 0 rfl rfl (fm_dec dtJ3_checkIndex_8e157 2 rfl) ?_
  refine fm_iloadn (pc := 5) (n := 1) 1 rfl rfl (fm_dec dtJ3_checkIndex_8e157 3 rfl) ?_
  refine fm_icmp_lt (pc := 6) 16 (by decide) (fm_dec dtJ3_checkIndex_8e157 4 rfl) (fun _ => ?_) (fun hc6 => by exfalso; exact hc6 (nI_lt hk (by omega)))
  refine fm_iloadn (pc := 16) (n := 0) 0 rfl rfl (fm_dec dtJ3_checkIndex_8e157 10 rfl) ?_
  exact fm_ireturn (pc := 17) rfl (fm_dec dtJ3_checkIndex_8e157 11 rfl) hq

set_option maxRecDepth 20000 in
theorem c_chk {T : fmT} {l : Launch} {G : fmG} {M : fmM} {Q : fmR → fmM → Prop} (hst : l.stackTraces = false) (k n : Nat) (hk : k < n) (hn : n < 64) (hq : Q (.inl none) M) : fmGood T l G 1 qJ0_checkIndex_df160 [.int (nI k), .int (nI n)] M Q := by
  refine fmGood_of hst (by decide +kernel) (Nat.le_of_ble_eq_true rfl) ?_
  show fmEv T l G 1 qJ0_checkIndex_df160 0 [some (.int (nI k)), some (.int (nI n))] [] M Q
  refine fm_iloadn (pc := 0) (n := 0) 0 rfl rfl (fm_dec dtJ0_checkIndex_df160 0 rfl) ?_
  refine fm_iloadn (pc := 1) (n := 1) 1 rfl rfl (fm_dec dtJ0_checkIndex_df160 1 rfl) ?_
  refine fm_gsi (pc := 2) fs_s (fm_dec dtJ0_checkIndex_df160 2 rfl) ?_
  refine fm_stE (st' := [fmSi G, .int (nI n), .int (nI k)]) rfl ?_
  refine fm_invS3 (d' := 0) (pc := 5) cs_J0_1059 (Nat.le_of_ble_eq_true rfl) (by decide) (fm_dec dtJ0_checkIndex_df160 3 rfl) ?_
  refine c_chk3 hst _ _ hk hn ?_
  refine fm_then1 ?_
  refine fm_pop (pc := 8) rfl (fm_dec dtJ0_checkIndex_df160 4 rfl) ?_
  exact fm_return (pc := 9) rfl (fm_dec dtJ0_checkIndex_df160 5 rfl) hq

set_option maxRecDepth 20000 in
theorem c_lcharAt {T : fmT} {l : Launch} {G : fmG} {M : fmM} {Q : fmR → fmM → Prop} (hst : l.stackTraces = false) (k : Nat) (i : Nat) (hi : i < 5) (hk : k < fmLen.getD i 0) (hq : Q (.inl (some (.int (chE i k)))) M) : fmGood T l G 2 qJ1_charAt_3b067 [.ref (G.2.2.2.2 i), .int (nI k)] M Q := by
  refine fmGood_of hst (by decide +kernel) (Nat.le_of_ble_eq_true rfl) ?_
  show fmEv T l G 2 qJ1_charAt_3b067 0 [some (.ref (G.2.2.2.2 i)), some (.int (nI k))] [] M Q
  refine fm_iloadn (pc := 0) (n := 1) 1 rfl rfl (fm_dec dtJ1_charAt_3b067 0 rfl) ?_
  refine fm_aloadn (pc := 1) (n := 0) 0 rfl rfl (fm_dec dtJ1_charAt_3b067 1 rfl) ?_
  refine fm_slen (i := i) (pc := 2) hi rfl (fm_dec dtJ1_charAt_3b067 2 rfl) ?_
  refine fm_invS2 (d' := 1) (pc := 3) cs_J1_9 (Nat.le_of_ble_eq_true rfl) (by decide) (fm_dec dtJ1_charAt_3b067 3 rfl) ?_
  refine c_chk hst _ _ hk (fmLen_lt i hi) ?_
  refine fm_then0 ?_
  refine fm_aloadn (pc := 6) (n := 0) 0 rfl rfl (fm_dec dtJ1_charAt_3b067 4 rfl) ?_
  refine fm_iloadn (pc := 7) (n := 1) 1 rfl rfl (fm_dec dtJ1_charAt_3b067 5 rfl) ?_
  refine fm_sbald (i := i) (pc := 8) hi (vp_in_nI hk (by have := fmLen_lt i hi; omega)) (fm_dec dtJ1_charAt_3b067 6 rfl) ?_
  refine fm_sipush (pc := 9) (v := 255) (by decide) (fm_dec dtJ1_charAt_3b067 7 rfl) ?_
  refine fm_iand (pc := 12) (fm_dec dtJ1_charAt_3b067 8 rfl) ?_
  refine fm_i2c (pc := 13) (fm_dec dtJ1_charAt_3b067 9 rfl) ?_
  refine fm_topE (v := chE i k) (by rw [nI_clamp (by have := fmLen_lt i hi; omega)]; exact sc_c2 _) ?_
  exact fm_nreturn (pc := 14) .char rfl (sc_nar _) (fm_dec dtJ1_charAt_3b067 10 rfl) hq

set_option maxRecDepth 20000 in
theorem c_charAt {T : fmT} {l : Launch} {G : fmG} {M : fmM} {Q : fmR → fmM → Prop} (hst : l.stackTraces = false) (k : Nat) (i : Nat) (hi : i < 5) (hk : k < fmLen.getD i 0) (hq : Q (.inl (some (.int (chE i k)))) M) : fmGood T l G 3 qJ0_charAt_5068e [.ref (G.2.2.2.1 i), .int (nI k)] M Q := by
  refine fmGood_of hst (by decide +kernel) (Nat.le_of_ble_eq_true rfl) ?_
  show fmEv T l G 3 qJ0_charAt_5068e 0 [some (.ref (G.2.2.2.1 i)), some (.int (nI k))] [] M Q
  refine fm_aloadn (pc := 0) (n := 0) 0 rfl rfl (fm_dec dtJ0_charAt_5068e 0 rfl) ?_
  refine fm_invT0 (i := i) (d' := 0) (pc := 1) hi sb_J0_492 nm_J0_isLatin1_aae02 nz_J0_isLatin1_aae02 (Nat.le_of_ble_eq_true rfl) (by decide) (fm_dec dtJ0_charAt_5068e 1 rfl) ?_
  refine c_latin hst i hi ?_
  refine fm_then1 ?_
  refine fm_if_eq (pc := 4) 16 (by decide) (fm_dec dtJ0_charAt_5068e 2 rfl) (fun hc4 => by exfalso; exact ne10 hc4) (fun _ => ?_)
  refine fm_aloadn (pc := 7) (n := 0) 0 rfl rfl (fm_dec dtJ0_charAt_5068e 3 rfl) ?_
  refine fm_sval (i := i) (pc := 8) hi fs_v (fm_dec dtJ0_charAt_5068e 4 rfl) ?_
  refine fm_iloadn (pc := 11) (n := 1) 1 rfl rfl (fm_dec dtJ0_charAt_5068e 5 rfl) ?_
  refine fm_invS2 (d' := 2) (pc := 12) cs_J0_495 (Nat.le_of_ble_eq_true rfl) (by decide) (fm_dec dtJ0_charAt_5068e 6 rfl) ?_
  refine c_lcharAt hst _ i hi hk ?_
  refine fm_then1 ?_
  exact fm_nreturn (pc := 15) .char rfl (sc_nar _) (fm_dec dtJ0_charAt_5068e 7 rfl) hq
-- LINKS: what the tables of a class must be
/-- a field: place of the pool, class, place, 0 int 1 long 2 reference, may be written -/
abbrev scFd : Type := Nat × Nat × Nat × Nat × Bool
def scFdk (own : String) (q : scFd) : Prop := fmFl own q.1 q.2.1 q.2.2.1 ∧ (q.2.2.2.1 = 0 → fmTy q.2.1 q.2.2.1 = .int) ∧ (q.2.2.2.1 = 1 → fmTy q.2.1 q.2.2.1 = .long) ∧ (q.2.2.2.1 = 2 → fmTy q.2.1 q.2.2.1 ≠ .int ∧ fmTy q.2.1 q.2.2.1 ≠ .long) ∧ (q.2.2.2.2 = true → fmFin q.2.1 q.2.2.1 = false)
def scKc (own : String) (q : Nat × (Int32 ⊕ Int64)) : Prop := match q.2 with
  | .inl v => Cond.constant own q.1 v ∈ fmWs
  | .inr v => Cond.constantLong own q.1 v ∈ fmWs
def pvMx (b : Bool) (x z : Int32) : Int32 := if b then (if x.toInt ≤ z.toInt then z else x) else (if x.toInt ≤ z.toInt then x else z)
def pvMxl (b : Bool) (x z : Int64) : Int64 := if b then (if z < x then x else z) else (if z < x then z else x)
/-- least or most of two ints by a static call -/
def scMm (own : String) (q : Nat × Bool) : Prop := ∀ (T : fmT) (l : Launch) (G : fmG) (d : Nat) (y : fmY) (pc : Nat) (L : List (Option Value)) (st : List Value) (M : fmM) (Q : fmR → fmM → Prop) (x z : Int32), l.stackTraces = false → y.1.cls = own → 1 ≤ d → (st.map fun v => v.category).sum ≤ 8 → decode y.2.1 pc = .ok (.invokestatic q.1, 3) → fmEv T l G d y (pc + 3) L (.int (pvMx q.2 x z) :: st) M Q → fmEv T l G d y pc L (.int z :: .int x :: st) M Q
/-- least or most of two longs -/
def scMlg (own : String) (q : Nat × Bool) : Prop := ∀ (T : fmT) (l : Launch) (G : fmG) (d : Nat) (y : fmY) (pc : Nat) (L : List (Option Value)) (st : List Value) (M : fmM) (Q : fmR → fmM → Prop) (x z : Int64), l.stackTraces = false → y.1.cls = own → 1 ≤ d → (st.map fun v => v.category).sum ≤ 8 → decode y.2.1 pc = .ok (.invokestatic q.1, 3) → fmEv T l G d y (pc + 3) L (.long (pvMxl q.2 x z) :: st) M Q → fmEv T l G d y pc L (.long z :: .long x :: st) M Q
/-- a class's links: fields, constants, copies of arrays, least and most, the same of longs -/
abbrev scLn : Type := List scFd × List (Nat × (Int32 ⊕ Int64)) × List Nat × List (Nat × Bool) × List (Nat × Bool)
def scLnk (own : String) (q : scLn) : Prop := (∀ f ∈ q.1, scFdk own f) ∧ (∀ f ∈ q.2.1, scKc own f) ∧ (∀ f ∈ q.2.2.1, Cond.methodLink own f arraycopyName ∈ fmWs) ∧ (∀ f ∈ q.2.2.2.1, scMm own f) ∧ ∀ f ∈ q.2.2.2.2, scMlg own f
/-- a call: place of the pool, kind (0 of an object, 1 static, 2 a text's length, 3 a text's sign), class, parameters, method -/
abbrev pvCl : Type := Nat × Nat × Nat × Nat × fmY
def pvCk (own : String) (q : pvCl) : Prop := match q.2.1 with
  | 0 => fmCv own q.1 q.2.2.2.2 q.2.2.2.1 q.2.2.1 ∧ plainName q.2.2.2.2.1.cls = true
  | 1 => fmCs own q.1 q.2.2.2.2 q.2.2.2.1 ∧ plainName q.2.2.2.2.1.cls = true
  | 2 => fmCb own q.1 qJ0_length_8abf5 0 ∧ q.2.2.2.2 = qJ0_length_8abf5 ∧ q.2.2.2.1 = 0
  | _ => fmCb own q.1 qJ0_charAt_5068e 1 ∧ q.2.2.2.2 = qJ0_charAt_5068e ∧ q.2.2.2.1 = 1
theorem sc_lt {x z : Int32} : x < z ↔ x.toInt < z.toInt := Int32.lt_iff_toInt_lt
theorem sc_le {x z : Int32} : x ≤ z ↔ x.toInt ≤ z.toInt := Int32.le_iff_toInt_le
theorem scq_eq {x z : Int32} : x = z ↔ x.toInt = z.toInt := Int32.toInt_inj.symm
-- least and most
theorem mx_t {x z v : Int32} (h : v.toInt = (if x.toInt ≤ z.toInt then z.toInt else x.toInt)) : v = pvMx true x z := by
  apply Int32.toInt_inj.mp
  rw [h]
  simp only [pvMx, if_true]
  split <;> rfl
theorem mx_f {x z v : Int32} (h : v.toInt = (if x.toInt ≤ z.toInt then x.toInt else z.toInt)) : v = pvMx false x z := by
  apply Int32.toInt_inj.mp
  rw [h]
  simp only [pvMx, Bool.false_eq_true, if_false]
  split <;> rfl
theorem mm_max {own : String} {idx : Nat} (hc : fmCs own idx qJ9_max_7cf53 2) : scMm own (idx, true) := by
  intro T l G d y pc L st M Q x z hst hy hd hcat hdg k
  subst hy
  refine fm_mmax hc hcat hdg ?_
  have e : (if x < z then z else x) = pvMx true x z := mx_t (by
    split
    · rename_i h
      rw [sc_lt] at h
      rw [if_pos (by omega)]
    · rename_i h
      rw [sc_lt] at h
      split
      · omega
      · rfl)
  rw [e]
  exact k
theorem mm_min {own : String} {idx : Nat} (hc : fmCs own idx qJ9_min_7cf53 2) : scMm own (idx, false) := by
  intro T l G d y pc L st M Q x z hst hy hd hcat hdg k
  subst hy
  refine fm_mmin hc hcat hdg ?_
  have e : (if z < x then z else x) = pvMx false x z := mx_f (by
    split
    · rename_i h
      rw [sc_lt] at h
      rw [if_neg (by omega)]
    · rename_i h
      rw [sc_lt] at h
      split
      · rfl
      · omega)
  rw [e]
  exact k
section Fd
variable {own : String} {idx ci j : Nat}
theorem fd_iw (hf : fmFl own idx ci j) (h : fmTy ci j = .int) (hw : fmFin ci j = false) : scFdk own (idx, ci, j, 0, true) := ⟨hf, fun _ => h, fun e => (by cases e), fun e => (by cases e), fun _ => hw⟩
theorem fd_ir (hf : fmFl own idx ci j) (h : fmTy ci j = .int) : scFdk own (idx, ci, j, 0, false) := ⟨hf, fun _ => h, fun e => (by cases e), fun e => (by cases e), fun e => (by cases e)⟩
theorem fd_jw (hf : fmFl own idx ci j) (h : fmTy ci j = .long) (hw : fmFin ci j = false) : scFdk own (idx, ci, j, 1, true) := ⟨hf, fun e => (by cases e), fun _ => h, fun e => (by cases e), fun _ => hw⟩
theorem fd_jr (hf : fmFl own idx ci j) (h : fmTy ci j = .long) : scFdk own (idx, ci, j, 1, false) := ⟨hf, fun e => (by cases e), fun _ => h, fun e => (by cases e), fun e => (by cases e)⟩
theorem fd_r (hf : fmFl own idx ci j) (h : fmTy ci j ≠ .int ∧ fmTy ci j ≠ .long) : scFdk own (idx, ci, j, 2, false) := ⟨hf, fun e => (by cases e), fun e => (by cases e), fun _ => h, fun e => (by cases e)⟩
theorem fa_nil {α : Type} {P : α → Prop} : ∀ q ∈ ([] : List α), P q := fun q hq => by cases hq
theorem fa_cons {α : Type} {P : α → Prop} {a : α} {l : List α} (h : P a) (h' : ∀ q ∈ l, P q) : ∀ q ∈ a :: l, P q := List.forall_mem_cons.mpr ⟨h, h'⟩
end Fd
theorem mm_maxl {own : String} {idx : Nat} (hc : fmCs own idx qJ9_max_f86c9 2) : scMlg own (idx, true) := by
  intro T l G d y pc L st M Q x z hst hy hd hcat hdg k
  subst hy
  obtain ⟨o, M', hq, k⟩ := k
  refine ⟨o, M', hq, ?_⟩
  intro p e s m args below meth c H locs A rest ls hst hF hE hA hP hS hL
  have ok : ∀ w ∈ fmWs, w.before args s = true := fun w h => hF.2.2.2.2.2.1 w (List.mem_cons_of_mem _ h)
  have h4 : Cond.code Lib.MathLoose.max_long.x Lib.MathLoose.max_long.code 4 (some .long) ∈ fmWs := hc.1.2.2.1
  exact va_mmax_long hF.1 hF.2.1 (by rw [hF.2.2.1, hL.1]) hF.2.2.2.2.1 (ok _ hc.1.1) (ok _ hc.2) (ok _ hc.1.2.1) (ok _ h4) (by show 1 ≤ d + 10; omega) (by show _ ≤ 60 * d + 200; omega) (Nat.zero_le _) (Nat.zero_le _) hdg (k p e s m args below meth c H locs A rest ls hst hF hE hA hP hS hL)
theorem mm_minl {own : String} {idx : Nat} (hc : fmCs own idx qJ9_min_f86c9 2) : scMlg own (idx, false) := by
  intro T l G d y pc L st M Q x z hst hy hd hcat hdg k
  subst hy
  obtain ⟨o, M', hq, k⟩ := k
  refine ⟨o, M', hq, ?_⟩
  intro p e s m args below meth c H locs A rest ls hst hF hE hA hP hS hL
  have ok : ∀ w ∈ fmWs, w.before args s = true := fun w h => hF.2.2.2.2.2.1 w (List.mem_cons_of_mem _ h)
  have h4 : Cond.code Lib.MathLoose.min_long.x Lib.MathLoose.min_long.code 4 (some .long) ∈ fmWs := hc.1.2.2.1
  exact va_mmin_long hF.1 hF.2.1 (by rw [hF.2.2.1, hL.1]) hF.2.2.2.2.1 (ok _ hc.1.1) (ok _ hc.2) (ok _ hc.1.2.1) (ok _ h4) (by show 1 ≤ d + 10; omega) (by show _ ≤ 60 * d + 200; omega) (Nat.zero_le _) (Nat.zero_le _) hdg (k p e s m args below meth c H locs A rest ls hst hF hE hA hP hS hL)
theorem mm_less {own : String} {idx : Nat} (hc : fmCs own idx qX11_less 2) : scMm own (idx, false) := by
  intro T l G d y pc L st M Q x z hst hy hd hcat hdg k
  subst hy
  refine fm_invS2 (d' := 0) hc hcat hd hdg ?_
  refine fmGood_of hst (by decide +kernel) (Nat.le_of_ble_eq_true rfl) ?_
  show fmEv T l G 0 qX11_less 0 [some (.int x), some (.int z)] [] M _
  refine fm_iloadn (pc := 0) (n := 0) 0 rfl rfl (fm_dec dtX11_less 0 rfl) ?_
  refine fm_iloadn (pc := 1) (n := 1) 1 rfl rfl (fm_dec dtX11_less 1 rfl) ?_
  refine fm_icmp_ge (pc := 2) 9 (by decide) (fm_dec dtX11_less 2 rfl) (fun h => ?_) (fun h => ?_)
  · refine fm_iloadn (pc := 9) (n := 1) 1 rfl rfl (fm_dec dtX11_less 5 rfl) ?_
    refine fm_ireturn (pc := 10) rfl (fm_dec dtX11_less 6 rfl) (fm_then1 ?_)
    rw [sc_le] at h
    have e : pvMx false x z = z := (mx_f (by split <;> omega)).symm
    rw [e] at k
    exact k
  · refine fm_iloadn (pc := 5) (n := 0) 0 rfl rfl (fm_dec dtX11_less 3 rfl) ?_
    refine fm_goto (pc := 6) 10 (by decide) (fm_dec dtX11_less 4 rfl) ?_
    refine fm_ireturn (pc := 10) rfl (fm_dec dtX11_less 6 rfl) (fm_then1 ?_)
    rw [sc_le] at h
    have e : pvMx false x z = x := (mx_f (by split <;> omega)).symm
    rw [e] at k
    exact k
theorem mm_more {own : String} {idx : Nat} (hc : fmCs own idx qX11_more 2) : scMm own (idx, true) := by
  intro T l G d y pc L st M Q x z hst hy hd hcat hdg k
  subst hy
  refine fm_invS2 (d' := 0) hc hcat hd hdg ?_
  refine fmGood_of hst (by decide +kernel) (Nat.le_of_ble_eq_true rfl) ?_
  show fmEv T l G 0 qX11_more 0 [some (.int x), some (.int z)] [] M _
  refine fm_iloadn (pc := 0) (n := 0) 0 rfl rfl (fm_dec dtX11_more 0 rfl) ?_
  refine fm_iloadn (pc := 1) (n := 1) 1 rfl rfl (fm_dec dtX11_more 1 rfl) ?_
  refine fm_icmp_le (pc := 2) 9 (by decide) (fm_dec dtX11_more 2 rfl) (fun h => ?_) (fun h => ?_)
  · refine fm_iloadn (pc := 9) (n := 1) 1 rfl rfl (fm_dec dtX11_more 5 rfl) ?_
    refine fm_ireturn (pc := 10) rfl (fm_dec dtX11_more 6 rfl) (fm_then1 ?_)
    rw [sc_le] at h
    have e : pvMx true x z = z := (mx_t (by split <;> omega)).symm
    rw [e] at k
    exact k
  · refine fm_iloadn (pc := 5) (n := 0) 0 rfl rfl (fm_dec dtX11_more 3 rfl) ?_
    refine fm_goto (pc := 6) 10 (by decide) (fm_dec dtX11_more 4 rfl) ?_
    refine fm_ireturn (pc := 10) rfl (fm_dec dtX11_more 6 rfl) (fm_then1 ?_)
    rw [sc_le] at h
    have e : pvMx true x z = x := (mx_t (by split <;> omega)).symm
    rw [e] at k
    exact k
end
-- P 10d
section
-- THE TABLES OF LINKS
theorem pn_J6 : plainName RJ6 = true := by decide +kernel
theorem pn_J7 : plainName RJ7 = true := by decide +kernel
theorem pn_X0 : plainName RX0 = true := by decide +kernel
theorem pn_X1 : plainName RX1 = true := by decide +kernel
theorem pn_X10 : plainName RX10 = true := by decide +kernel
theorem pn_X11 : plainName RX11 = true := by decide +kernel
theorem pn_X2 : plainName RX2 = true := by decide +kernel
theorem pn_X3 : plainName RX3 = true := by decide +kernel
theorem pn_X4 : plainName RX4 = true := by decide +kernel
theorem pn_X5 : plainName RX5 = true := by decide +kernel
theorem pn_X6 : plainName RX6 = true := by decide +kernel
theorem pn_X7 : plainName RX7 = true := by decide +kernel
theorem pn_X8 : plainName RX8 = true := by decide +kernel
theorem pn_X9 : plainName RX9 = true := by decide +kernel
abbrev lnX0 : scLn × List (Nat × Nat) := (([(9, 0, 2, 2, false), (15, 0, 0, 2, false), (19, 0, 1, 2, false), (23, 8, 0, 2, false), (29, 6, 2, 0, true), (35, 8, 5, 2, false), (50, 8, 2, 2, false), (65, 8, 12, 0, true), (68, 8, 13, 0, true), (75, 8, 9, 0, true), (78, 6, 0, 2, false), (81, 8, 1, 2, false), (88, 8, 3, 2, false), (116, 6, 3, 0, true), (118, 6, 6, 1, true), (122, 6, 4, 0, true), (128, 6, 5, 0, true), (131, 6, 1, 0, true), (134, 8, 11, 0, true)], [(63, .inr 64)], [], [(125, true)], [(99, true)]), [])
theorem lkX0 : scLnk RX0 lnX0.1 ∧ (∀ q ∈ lnX0.2, ∀ G : fmG, q.2 < 5 ∧ ∃ tx : String, ∀ (A : Nat → Prop) (s : State), fmEnv G A s → vk_R RX0 q.1 tx (G.2.2.2.1 q.2) s) := ⟨⟨fa_cons (fd_r fl_X0_9 (by decide)) (fa_cons (fd_r fl_X0_15 (by decide)) (fa_cons (fd_r fl_X0_19 (by decide)) (fa_cons (fd_r fl_X0_23 (by decide)) (fa_cons (fd_iw fl_X0_29 rfl rfl) (fa_cons (fd_r fl_X0_35 (by decide)) (fa_cons (fd_r fl_X0_50 (by decide)) (fa_cons (fd_iw fl_X0_65 rfl rfl) (fa_cons (fd_iw fl_X0_68 rfl rfl) (fa_cons (fd_iw fl_X0_75 rfl rfl) (fa_cons (fd_r fl_X0_78 (by decide)) (fa_cons (fd_r fl_X0_81 (by decide)) (fa_cons (fd_r fl_X0_88 (by decide)) (fa_cons (fd_iw fl_X0_116 rfl rfl) (fa_cons (fd_jw fl_X0_118 rfl rfl) (fa_cons (fd_iw fl_X0_122 rfl rfl) (fa_cons (fd_iw fl_X0_128 rfl rfl) (fa_cons (fd_iw fl_X0_131 rfl rfl) (fa_cons (fd_iw fl_X0_134 rfl rfl) (fa_nil))))))))))))))))))), fa_cons (kc_X0_63) (fa_nil), fa_nil, fa_cons (mm_max cs_X0_125) (fa_nil), fa_cons (mm_maxl cs_X0_99) (fa_nil)⟩, fa_nil⟩
abbrev caX0 : List pvCl := [(38, 0, 6, 1, qX6_isAlive), (42, 0, 8, 3, qX8_changesBetween), (46, 0, 0, 3, qX0_yearsWhen), (53, 0, 0, 2, qX0_signerDead), (57, 0, 1, 5, qX1_outcome), (71, 0, 0, 4, qX0_wrongWhen), (84, 0, 0, 4, qX0_costWhen), (91, 0, 8, 1, qX8_renewHours), (95, 0, 0, 2, qX0_canBePut), (105, 0, 0, 2, qX0_savedRisk), (109, 0, 0, 3, qX0_firstOf), (113, 0, 0, 2, qX0_hoursFor)]
theorem ckX0 : ∀ q ∈ caX0, pvCk RX0 q := fa_cons (⟨cv_X0_38, pn_X6⟩) (fa_cons (⟨cv_X0_42, pn_X8⟩) (fa_cons (⟨cv_X0_46, pn_X0⟩) (fa_cons (⟨cv_X0_53, pn_X0⟩) (fa_cons (⟨cv_X0_57, pn_X1⟩) (fa_cons (⟨cv_X0_71, pn_X0⟩) (fa_cons (⟨cv_X0_84, pn_X0⟩) (fa_cons (⟨cv_X0_91, pn_X8⟩) (fa_cons (⟨cv_X0_95, pn_X0⟩) (fa_cons (⟨cv_X0_105, pn_X0⟩) (fa_cons (⟨cv_X0_109, pn_X0⟩) (fa_cons (⟨cv_X0_113, pn_X0⟩) (fa_nil))))))))))))
abbrev lnX1 : scLn × List (Nat × Nat) := (([(9, 1, 0, 2, false), (15, 1, 1, 2, false), (18, 1, 2, 2, false), (24, 1, 3, 0, true), (28, 1, 4, 0, true), (41, 7, 3, 0, true)], [], [48], [(89, false), (94, true)], []), [(76, 3)])
theorem lkX1 : scLnk RX1 lnX1.1 ∧ (∀ q ∈ lnX1.2, ∀ G : fmG, q.2 < 5 ∧ ∃ tx : String, ∀ (A : Nat → Prop) (s : State), fmEnv G A s → vk_R RX1 q.1 tx (G.2.2.2.1 q.2) s) := ⟨⟨fa_cons (fd_r fl_X1_9 (by decide)) (fa_cons (fd_r fl_X1_15 (by decide)) (fa_cons (fd_r fl_X1_18 (by decide)) (fa_cons (fd_iw fl_X1_24 rfl rfl) (fa_cons (fd_iw fl_X1_28 rfl rfl) (fa_cons (fd_iw fl_X1_41 rfl rfl) (fa_nil)))))), fa_nil, fa_cons (ca_X1_48) (fa_nil), fa_cons (mm_min cs_X1_89) (fa_cons (mm_max cs_X1_94) (fa_nil)), fa_nil⟩, fa_cons (fun G => ⟨by decide, _, fun A s h => h.2.2.2.2.2.2.2.2.1⟩) (fa_nil)⟩
abbrev caX1 : List pvCl := [(21, 0, 1, 0, qX1_clear), (31, 0, 1, 2, qX1_readSum), (35, 0, 7, 0, qX7_peek), (44, 0, 7, 2, qX7_fail), (54, 0, 1, 2, qX1_readProduct), (57, 0, 1, 1, qX1_emit), (61, 0, 1, 2, qX1_readUnit), (64, 0, 7, 1, qX7_takeSign), (68, 0, 7, 2, qX7_takeNumber), (72, 0, 7, 0, qX7_failed), (78, 0, 7, 1, qX7_takeWord), (82, 0, 1, 2, qX1_readTwo), (85, 1, 0, 3, qX1_joined)]
theorem ckX1 : ∀ q ∈ caX1, pvCk RX1 q := fa_cons (⟨cv_X1_21, pn_X1⟩) (fa_cons (⟨cv_X1_31, pn_X1⟩) (fa_cons (⟨cv_X1_35, pn_X7⟩) (fa_cons (⟨cv_X1_44, pn_X7⟩) (fa_cons (⟨cv_X1_54, pn_X1⟩) (fa_cons (⟨cv_X1_57, pn_X1⟩) (fa_cons (⟨cv_X1_61, pn_X1⟩) (fa_cons (⟨cv_X1_64, pn_X7⟩) (fa_cons (⟨cv_X1_68, pn_X7⟩) (fa_cons (⟨cv_X1_72, pn_X7⟩) (fa_cons (⟨cv_X1_78, pn_X7⟩) (fa_cons (⟨cv_X1_82, pn_X1⟩) (fa_cons (⟨cs_X1_85, pn_X1⟩) (fa_nil)))))))))))))
abbrev lnX2 : scLn × List (Nat × Nat) := (([(9, 2, 0, 0, true), (15, 2, 1, 0, true), (18, 2, 2, 0, true)], [], [], [], []), [])
theorem lkX2 : scLnk RX2 lnX2.1 ∧ (∀ q ∈ lnX2.2, ∀ G : fmG, q.2 < 5 ∧ ∃ tx : String, ∀ (A : Nat → Prop) (s : State), fmEnv G A s → vk_R RX2 q.1 tx (G.2.2.2.1 q.2) s) := ⟨⟨fa_cons (fd_iw fl_X2_9 rfl rfl) (fa_cons (fd_iw fl_X2_15 rfl rfl) (fa_cons (fd_iw fl_X2_18 rfl rfl) (fa_nil))), fa_nil, fa_nil, fa_nil, fa_nil⟩, fa_nil⟩
abbrev caX2 : List pvCl := [(21, 0, 7, 0, qX7_peek), (27, 0, 7, 0, qX7_nextPlace), (30, 0, 7, 2, qX7_takeNumber), (34, 0, 7, 2, qX7_fail), (38, 0, 7, 1, qX7_takeSign), (42, 0, 7, 0, qX7_failed), (46, 1, 0, 1, qJ6_bitCount_0f7a4)]
theorem ckX2 : ∀ q ∈ caX2, pvCk RX2 q := fa_cons (⟨cv_X2_21, pn_X7⟩) (fa_cons (⟨cv_X2_27, pn_X7⟩) (fa_cons (⟨cv_X2_30, pn_X7⟩) (fa_cons (⟨cv_X2_34, pn_X7⟩) (fa_cons (⟨cv_X2_38, pn_X7⟩) (fa_cons (⟨cv_X2_42, pn_X7⟩) (fa_cons (⟨cs_X2_46, pn_J6⟩) (fa_nil)))))))
abbrev lnX3 : scLn × List (Nat × Nat) := (([(11, 3, 1, 2, false), (15, 3, 2, 2, false), (18, 3, 3, 2, false), (22, 3, 4, 2, false), (25, 3, 0, 2, false), (29, 3, 5, 0, true), (33, 3, 6, 1, true), (47, 6, 3, 0, true), (52, 0, 0, 2, false), (58, 8, 11, 0, true), (72, 8, 9, 0, true), (79, 8, 1, 2, false), (94, 6, 0, 2, false), (104, 8, 3, 2, false)], [], [], [(63, false), (69, true)], [(113, false)]), [])
theorem lkX3 : scLnk RX3 lnX3.1 ∧ (∀ q ∈ lnX3.2, ∀ G : fmG, q.2 < 5 ∧ ∃ tx : String, ∀ (A : Nat → Prop) (s : State), fmEnv G A s → vk_R RX3 q.1 tx (G.2.2.2.1 q.2) s) := ⟨⟨fa_cons (fd_r fl_X3_11 (by decide)) (fa_cons (fd_r fl_X3_15 (by decide)) (fa_cons (fd_r fl_X3_18 (by decide)) (fa_cons (fd_r fl_X3_22 (by decide)) (fa_cons (fd_r fl_X3_25 (by decide)) (fa_cons (fd_iw fl_X3_29 rfl rfl) (fa_cons (fd_jw fl_X3_33 rfl rfl) (fa_cons (fd_iw fl_X3_47 rfl rfl) (fa_cons (fd_r fl_X3_52 (by decide)) (fa_cons (fd_iw fl_X3_58 rfl rfl) (fa_cons (fd_iw fl_X3_72 rfl rfl) (fa_cons (fd_r fl_X3_79 (by decide)) (fa_cons (fd_r fl_X3_94 (by decide)) (fa_cons (fd_r fl_X3_104 (by decide)) (fa_nil)))))))))))))), fa_nil, fa_nil, fa_cons (mm_min cs_X3_63) (fa_cons (mm_max cs_X3_69) (fa_nil)), fa_cons (mm_minl cs_X3_113) (fa_nil)⟩, fa_nil⟩
abbrev caX3 : List pvCl := [(37, 1, 0, 1, qX3_keyShift), (41, 1, 0, 2, qJ7_fill_d0a16), (75, 0, 6, 1, qX6_isAlive), (82, 0, 3, 3, qX3_weighWays), (86, 0, 3, 1, qX3_addLife), (90, 1, 0, 3, qX3_cellOf), (97, 0, 3, 2, qX3_hoursAtAge), (100, 0, 0, 4, qX0_lossAhead), (106, 0, 8, 1, qX8_renewHours), (109, 0, 3, 4, qX3_leastOf)]
theorem ckX3 : ∀ q ∈ caX3, pvCk RX3 q := fa_cons (⟨cs_X3_37, pn_X3⟩) (fa_cons (⟨cs_X3_41, pn_J7⟩) (fa_cons (⟨cv_X3_75, pn_X6⟩) (fa_cons (⟨cv_X3_82, pn_X3⟩) (fa_cons (⟨cv_X3_86, pn_X3⟩) (fa_cons (⟨cs_X3_90, pn_X3⟩) (fa_cons (⟨cv_X3_97, pn_X3⟩) (fa_cons (⟨cv_X3_100, pn_X0⟩) (fa_cons (⟨cv_X3_106, pn_X8⟩) (fa_cons (⟨cv_X3_109, pn_X3⟩) (fa_nil))))))))))
abbrev lnX4 : scLn × List (Nat × Nat) := (([(12, 4, 0, 2, false), (18, 4, 3, 2, false), (22, 4, 2, 2, false), (30, 6, 4, 0, true), (34, 6, 5, 0, true), (37, 6, 6, 1, true), (41, 4, 1, 0, true), (44, 4, 4, 0, true), (60, 0, 0, 2, false), (64, 8, 9, 0, true), (77, 8, 1, 2, false), (89, 6, 3, 0, true)], [(59, .inl 1103515245)], [], [], []), [])
theorem lkX4 : scLnk RX4 lnX4.1 ∧ (∀ q ∈ lnX4.2, ∀ G : fmG, q.2 < 5 ∧ ∃ tx : String, ∀ (A : Nat → Prop) (s : State), fmEnv G A s → vk_R RX4 q.1 tx (G.2.2.2.1 q.2) s) := ⟨⟨fa_cons (fd_r fl_X4_12 (by decide)) (fa_cons (fd_r fl_X4_18 (by decide)) (fa_cons (fd_r fl_X4_22 (by decide)) (fa_cons (fd_iw fl_X4_30 rfl rfl) (fa_cons (fd_iw fl_X4_34 rfl rfl) (fa_cons (fd_jw fl_X4_37 rfl rfl) (fa_cons (fd_iw fl_X4_41 rfl rfl) (fa_cons (fd_iw fl_X4_44 rfl rfl) (fa_cons (fd_r fl_X4_60 (by decide)) (fa_cons (fd_iw fl_X4_64 rfl rfl) (fa_cons (fd_r fl_X4_77 (by decide)) (fa_cons (fd_iw fl_X4_89 rfl rfl) (fa_nil)))))))))))), fa_cons (kc_X4_59) (fa_nil), fa_nil, fa_nil, fa_nil⟩, fa_nil⟩
abbrev caX4 : List pvCl := [(26, 0, 6, 1, qX6_copyFrom), (47, 0, 4, 0, qX4_drawDeaths), (50, 0, 4, 0, qX4_putFirsts), (53, 0, 0, 1, qX0_passWeek), (69, 0, 6, 1, qX6_isAlive), (73, 0, 4, 0, qX4_drawOf64), (81, 0, 0, 2, qX0_letDie), (85, 0, 0, 2, qX0_savedRisk), (92, 0, 0, 3, qX0_firstOf), (96, 0, 0, 2, qX0_putPiece)]
theorem ckX4 : ∀ q ∈ caX4, pvCk RX4 q := fa_cons (⟨cv_X4_26, pn_X6⟩) (fa_cons (⟨cv_X4_47, pn_X4⟩) (fa_cons (⟨cv_X4_50, pn_X4⟩) (fa_cons (⟨cv_X4_53, pn_X0⟩) (fa_cons (⟨cv_X4_69, pn_X6⟩) (fa_cons (⟨cv_X4_73, pn_X4⟩) (fa_cons (⟨cv_X4_81, pn_X0⟩) (fa_cons (⟨cv_X4_85, pn_X0⟩) (fa_cons (⟨cv_X4_92, pn_X0⟩) (fa_cons (⟨cv_X4_96, pn_X0⟩) (fa_nil))))))))))
abbrev lnX5 : scLn × List (Nat × Nat) := (([(12, 5, 0, 2, false), (18, 5, 1, 2, false), (22, 5, 2, 0, true)], [], [], [], []), [])
theorem lkX5 : scLnk RX5 lnX5.1 ∧ (∀ q ∈ lnX5.2, ∀ G : fmG, q.2 < 5 ∧ ∃ tx : String, ∀ (A : Nat → Prop) (s : State), fmEnv G A s → vk_R RX5 q.1 tx (G.2.2.2.1 q.2) s) := ⟨⟨fa_cons (fd_r fl_X5_12 (by decide)) (fa_cons (fd_r fl_X5_18 (by decide)) (fa_cons (fd_iw fl_X5_22 rfl rfl) (fa_nil))), fa_nil, fa_nil, fa_nil, fa_nil⟩, fa_nil⟩
abbrev caX5 : List pvCl := [(26, 0, 6, 1, qX6_copyFrom)]
theorem ckX5 : ∀ q ∈ caX5, pvCk RX5 q := fa_cons (⟨cv_X5_26, pn_X6⟩) (fa_nil)
abbrev lnX6 : scLn × List (Nat × Nat) := (([(9, 6, 0, 2, false), (15, 8, 4, 2, false), (26, 6, 1, 0, true), (30, 6, 2, 0, true), (33, 8, 11, 0, true), (36, 6, 3, 0, true), (39, 6, 4, 0, true), (42, 6, 5, 0, true), (45, 6, 6, 1, true)], [], [20], [], []), [])
theorem lkX6 : scLnk RX6 lnX6.1 ∧ (∀ q ∈ lnX6.2, ∀ G : fmG, q.2 < 5 ∧ ∃ tx : String, ∀ (A : Nat → Prop) (s : State), fmEnv G A s → vk_R RX6 q.1 tx (G.2.2.2.1 q.2) s) := ⟨⟨fa_cons (fd_r fl_X6_9 (by decide)) (fa_cons (fd_r fl_X6_15 (by decide)) (fa_cons (fd_iw fl_X6_26 rfl rfl) (fa_cons (fd_iw fl_X6_30 rfl rfl) (fa_cons (fd_iw fl_X6_33 rfl rfl) (fa_cons (fd_iw fl_X6_36 rfl rfl) (fa_cons (fd_iw fl_X6_39 rfl rfl) (fa_cons (fd_iw fl_X6_42 rfl rfl) (fa_cons (fd_jw fl_X6_45 rfl rfl) (fa_nil))))))))), fa_nil, fa_cons (ca_X6_20) (fa_nil), fa_nil, fa_nil⟩, fa_nil⟩
abbrev caX6 : List pvCl := []
theorem ckX6 : ∀ q ∈ caX6, pvCk RX6 q := fa_nil
abbrev lnX7 : scLn × List (Nat × Nat) := (([(9, 7, 0, 2, false), (15, 7, 5, 0, true), (19, 7, 1, 0, true), (22, 7, 2, 0, true), (25, 7, 3, 0, true), (28, 7, 4, 0, true)], [(42, .inl 1000000)], [], [(43, false)], []), [])
theorem lkX7 : scLnk RX7 lnX7.1 ∧ (∀ q ∈ lnX7.2, ∀ G : fmG, q.2 < 5 ∧ ∃ tx : String, ∀ (A : Nat → Prop) (s : State), fmEnv G A s → vk_R RX7 q.1 tx (G.2.2.2.1 q.2) s) := ⟨⟨fa_cons (fd_r fl_X7_9 (by decide)) (fa_cons (fd_iw fl_X7_15 rfl rfl) (fa_cons (fd_iw fl_X7_19 rfl rfl) (fa_cons (fd_iw fl_X7_22 rfl rfl) (fa_cons (fd_iw fl_X7_25 rfl rfl) (fa_cons (fd_iw fl_X7_28 rfl rfl) (fa_nil)))))), fa_cons (kc_X7_42) (fa_nil), fa_nil, fa_cons (mm_min cs_X7_43) (fa_nil), fa_nil⟩, fa_nil⟩
abbrev caX7 : List pvCl := [(31, 0, 7, 0, qX7_peek), (35, 0, 7, 2, qX7_fail), (39, 0, 7, 0, qX7_nextPlace), (49, 0, 7, 3, qX7_find), (53, 2, 0, 0, qJ0_length_8abf5), (57, 3, 0, 1, qJ0_charAt_5068e)]
theorem ckX7 : ∀ q ∈ caX7, pvCk RX7 q := fa_cons (⟨cv_X7_31, pn_X7⟩) (fa_cons (⟨cv_X7_35, pn_X7⟩) (fa_cons (⟨cv_X7_39, pn_X7⟩) (fa_cons (⟨cv_X7_49, pn_X7⟩) (fa_cons (⟨sb_X7_53, rfl, rfl⟩) (fa_cons (⟨sb_X7_57, rfl, rfl⟩) (fa_nil))))))
abbrev lnX8 : scLn × List (Nat × Nat) := (([(9, 8, 0, 2, false), (15, 8, 1, 2, false), (18, 8, 2, 2, false), (21, 8, 3, 2, false), (24, 8, 4, 2, false), (27, 8, 5, 2, false), (30, 8, 6, 2, false), (33, 8, 7, 2, false), (36, 8, 8, 2, false), (42, 8, 9, 0, true), (46, 8, 10, 0, true), (49, 8, 11, 0, true), (52, 8, 12, 0, true), (55, 8, 13, 0, true), (58, 8, 14, 0, true), (81, 7, 3, 0, true)], [], [61], [(121, true)], []), [(91, 2)])
theorem lkX8 : scLnk RX8 lnX8.1 ∧ (∀ q ∈ lnX8.2, ∀ G : fmG, q.2 < 5 ∧ ∃ tx : String, ∀ (A : Nat → Prop) (s : State), fmEnv G A s → vk_R RX8 q.1 tx (G.2.2.2.1 q.2) s) := ⟨⟨fa_cons (fd_r fl_X8_9 (by decide)) (fa_cons (fd_r fl_X8_15 (by decide)) (fa_cons (fd_r fl_X8_18 (by decide)) (fa_cons (fd_r fl_X8_21 (by decide)) (fa_cons (fd_r fl_X8_24 (by decide)) (fa_cons (fd_r fl_X8_27 (by decide)) (fa_cons (fd_r fl_X8_30 (by decide)) (fa_cons (fd_r fl_X8_33 (by decide)) (fa_cons (fd_r fl_X8_36 (by decide)) (fa_cons (fd_iw fl_X8_42 rfl rfl) (fa_cons (fd_iw fl_X8_46 rfl rfl) (fa_cons (fd_iw fl_X8_49 rfl rfl) (fa_cons (fd_iw fl_X8_52 rfl rfl) (fa_cons (fd_iw fl_X8_55 rfl rfl) (fa_cons (fd_iw fl_X8_58 rfl rfl) (fa_cons (fd_iw fl_X8_81 rfl rfl) (fa_nil)))))))))))))))), fa_nil, fa_cons (ca_X8_61) (fa_nil), fa_cons (mm_max cs_X8_121) (fa_nil), fa_nil⟩, fa_cons (fun G => ⟨by decide, _, fun A s h => h.2.2.2.2.2.2.2.1⟩) (fa_nil)⟩
abbrev caX8 : List pvCl := [(39, 0, 8, 0, qX8_clear), (67, 0, 7, 0, qX7_peek), (73, 0, 8, 2, qX8_readClause), (77, 0, 7, 1, qX7_takeSign), (84, 0, 7, 2, qX7_fail), (88, 0, 7, 0, qX7_nextPlace), (93, 0, 7, 1, qX7_takeWord), (97, 0, 8, 1, qX8_readLife), (101, 0, 8, 1, qX8_readHas), (104, 0, 8, 1, qX8_readBy), (107, 0, 8, 1, qX8_readFact), (110, 0, 8, 2, qX8_readRule), (113, 0, 7, 2, qX7_takeNumber), (117, 0, 7, 0, qX7_failed)]
theorem ckX8 : ∀ q ∈ caX8, pvCk RX8 q := fa_cons (⟨cv_X8_39, pn_X8⟩) (fa_cons (⟨cv_X8_67, pn_X7⟩) (fa_cons (⟨cv_X8_73, pn_X8⟩) (fa_cons (⟨cv_X8_77, pn_X7⟩) (fa_cons (⟨cv_X8_84, pn_X7⟩) (fa_cons (⟨cv_X8_88, pn_X7⟩) (fa_cons (⟨cv_X8_93, pn_X7⟩) (fa_cons (⟨cv_X8_97, pn_X8⟩) (fa_cons (⟨cv_X8_101, pn_X8⟩) (fa_cons (⟨cv_X8_104, pn_X8⟩) (fa_cons (⟨cv_X8_107, pn_X8⟩) (fa_cons (⟨cv_X8_110, pn_X8⟩) (fa_cons (⟨cv_X8_113, pn_X7⟩) (fa_cons (⟨cv_X8_117, pn_X7⟩) (fa_nil))))))))))))))
abbrev lnX9 : scLn × List (Nat × Nat) := (([(9, 9, 0, 2, false), (15, 9, 1, 2, false), (18, 9, 2, 2, false), (21, 9, 3, 0, true), (25, 9, 4, 0, true), (28, 9, 5, 0, true), (31, 9, 6, 0, true), (89, 6, 0, 2, false)], [], [], [(80, true)], []), [(54, 4)])
theorem lkX9 : scLnk RX9 lnX9.1 ∧ (∀ q ∈ lnX9.2, ∀ G : fmG, q.2 < 5 ∧ ∃ tx : String, ∀ (A : Nat → Prop) (s : State), fmEnv G A s → vk_R RX9 q.1 tx (G.2.2.2.1 q.2) s) := ⟨⟨fa_cons (fd_r fl_X9_9 (by decide)) (fa_cons (fd_r fl_X9_15 (by decide)) (fa_cons (fd_r fl_X9_18 (by decide)) (fa_cons (fd_iw fl_X9_21 rfl rfl) (fa_cons (fd_iw fl_X9_25 rfl rfl) (fa_cons (fd_iw fl_X9_28 rfl rfl) (fa_cons (fd_iw fl_X9_31 rfl rfl) (fa_cons (fd_r fl_X9_89 (by decide)) (fa_nil)))))))), fa_nil, fa_nil, fa_cons (mm_max cs_X9_80) (fa_nil), fa_nil⟩, fa_cons (fun G => ⟨by decide, _, fun A s h => h.2.2.2.2.2.2.2.2.2.1⟩) (fa_nil)⟩
abbrev caX9 : List pvCl := [(34, 0, 9, 3, qX9_readSteps), (38, 0, 7, 0, qX7_peek), (44, 0, 9, 3, qX9_readStep), (47, 0, 7, 1, qX7_takeSign), (51, 0, 7, 0, qX7_nextPlace), (56, 0, 7, 1, qX7_takeWord), (60, 0, 7, 2, qX7_fail), (64, 0, 9, 4, qX9_readAgain), (68, 0, 7, 2, qX7_takeNumber), (72, 0, 7, 0, qX7_failed), (76, 0, 9, 5, qX9_perform), (85, 1, 0, 4, qX9_performStep), (94, 0, 0, 2, qX0_putPiece), (100, 0, 0, 2, qX0_letDie), (103, 0, 0, 1, qX0_passWeek)]
theorem ckX9 : ∀ q ∈ caX9, pvCk RX9 q := fa_cons (⟨cv_X9_34, pn_X9⟩) (fa_cons (⟨cv_X9_38, pn_X7⟩) (fa_cons (⟨cv_X9_44, pn_X9⟩) (fa_cons (⟨cv_X9_47, pn_X7⟩) (fa_cons (⟨cv_X9_51, pn_X7⟩) (fa_cons (⟨cv_X9_56, pn_X7⟩) (fa_cons (⟨cv_X9_60, pn_X7⟩) (fa_cons (⟨cv_X9_64, pn_X9⟩) (fa_cons (⟨cv_X9_68, pn_X7⟩) (fa_cons (⟨cv_X9_72, pn_X7⟩) (fa_cons (⟨cv_X9_76, pn_X9⟩) (fa_cons (⟨cs_X9_85, pn_X9⟩) (fa_cons (⟨cv_X9_94, pn_X0⟩) (fa_cons (⟨cv_X9_100, pn_X0⟩) (fa_cons (⟨cv_X9_103, pn_X0⟩) (fa_nil)))))))))))))))
abbrev lnX10 : scLn × List (Nat × Nat) := (([(12, 10, 0, 2, false), (19, 10, 1, 2, false), (23, 10, 2, 2, false), (29, 10, 3, 2, false), (36, 10, 4, 2, false), (43, 10, 5, 2, false), (52, 10, 6, 2, false), (61, 10, 7, 2, false), (68, 10, 8, 2, false), (75, 10, 9, 2, false), (79, 10, 10, 2, false), (83, 10, 11, 2, false), (87, 10, 12, 2, false), (90, 5, 0, 2, false), (100, 7, 1, 0, true), (116, 7, 4, 0, true), (126, 5, 2, 0, true), (129, 10, 13, 0, true), (132, 10, 14, 0, true), (138, 8, 9, 0, true), (148, 9, 3, 0, true), (155, 9, 6, 0, true), (158, 9, 5, 0, true), (162, 2, 0, 0, true), (163, 7, 5, 0, true), (173, 6, 2, 0, true), (176, 6, 3, 0, true), (179, 6, 1, 0, true), (191, 6, 4, 0, true), (194, 6, 5, 0, true), (204, 8, 1, 2, false), (207, 8, 2, 2, false), (210, 8, 3, 2, false), (219, 6, 0, 2, false), (222, 8, 5, 2, false), (247, 6, 6, 1, true), (346, 4, 0, 2, false), (349, 4, 1, 0, true), (363, 10, 15, 0, true), (366, 10, 16, 0, true)], [(251, .inr 64), (265, .inr 4096), (281, .inr (-1)), (393, .inl 65535)], [], [(352, false), (357, true)], []), [])
theorem lkX10 : scLnk RX10 lnX10.1 ∧ (∀ q ∈ lnX10.2, ∀ G : fmG, q.2 < 5 ∧ ∃ tx : String, ∀ (A : Nat → Prop) (s : State), fmEnv G A s → vk_R RX10 q.1 tx (G.2.2.2.1 q.2) s) := ⟨⟨fa_cons (fd_r fl_X10_12 (by decide)) (fa_cons (fd_r fl_X10_19 (by decide)) (fa_cons (fd_r fl_X10_23 (by decide)) (fa_cons (fd_r fl_X10_29 (by decide)) (fa_cons (fd_r fl_X10_36 (by decide)) (fa_cons (fd_r fl_X10_43 (by decide)) (fa_cons (fd_r fl_X10_52 (by decide)) (fa_cons (fd_r fl_X10_61 (by decide)) (fa_cons (fd_r fl_X10_68 (by decide)) (fa_cons (fd_r fl_X10_75 (by decide)) (fa_cons (fd_r fl_X10_79 (by decide)) (fa_cons (fd_r fl_X10_83 (by decide)) (fa_cons (fd_r fl_X10_87 (by decide)) (fa_cons (fd_r fl_X10_90 (by decide)) (fa_cons (fd_iw fl_X10_100 rfl rfl) (fa_cons (fd_iw fl_X10_116 rfl rfl) (fa_cons (fd_iw fl_X10_126 rfl rfl) (fa_cons (fd_iw fl_X10_129 rfl rfl) (fa_cons (fd_iw fl_X10_132 rfl rfl) (fa_cons (fd_iw fl_X10_138 rfl rfl) (fa_cons (fd_iw fl_X10_148 rfl rfl) (fa_cons (fd_iw fl_X10_155 rfl rfl) (fa_cons (fd_iw fl_X10_158 rfl rfl) (fa_cons (fd_iw fl_X10_162 rfl rfl) (fa_cons (fd_iw fl_X10_163 rfl rfl) (fa_cons (fd_iw fl_X10_173 rfl rfl) (fa_cons (fd_iw fl_X10_176 rfl rfl) (fa_cons (fd_iw fl_X10_179 rfl rfl) (fa_cons (fd_iw fl_X10_191 rfl rfl) (fa_cons (fd_iw fl_X10_194 rfl rfl) (fa_cons (fd_r fl_X10_204 (by decide)) (fa_cons (fd_r fl_X10_207 (by decide)) (fa_cons (fd_r fl_X10_210 (by decide)) (fa_cons (fd_r fl_X10_219 (by decide)) (fa_cons (fd_r fl_X10_222 (by decide)) (fa_cons (fd_jw fl_X10_247 rfl rfl) (fa_cons (fd_r fl_X10_346 (by decide)) (fa_cons (fd_iw fl_X10_349 rfl rfl) (fa_cons (fd_iw fl_X10_363 rfl rfl) (fa_cons (fd_iw fl_X10_366 rfl rfl) (fa_nil)))))))))))))))))))))))))))))))))))))))), fa_cons (kc_X10_251) (fa_cons (kc_X10_265) (fa_cons (kc_X10_281) (fa_cons (kc_X10_393) (fa_nil)))), fa_nil, fa_cons (mm_min cs_X10_352) (fa_cons (mm_max cs_X10_357) (fa_nil)), fa_nil⟩, fa_nil⟩
abbrev caX10 : List pvCl := [(94, 0, 6, 1, qX6_begin), (104, 0, 7, 1, qX7_put), (108, 0, 10, 2, qX10_openText), (112, 0, 8, 1, qX8_read), (119, 0, 8, 1, qX8_copyFrom), (122, 0, 1, 0, qX1_clear), (125, 0, 2, 0, qX2_clear), (135, 0, 3, 0, qX3_forget), (141, 0, 1, 1, qX1_read), (142, 0, 9, 2, qX9_read), (145, 0, 5, 0, qX5_keep), (151, 0, 9, 5, qX9_perform), (161, 0, 2, 1, qX2_read), (166, 0, 5, 0, qX5_goBack), (169, 0, 10, 3, qX10_needWithin), (182, 1, 0, 1, qJ6_bitCount_0f7a4), (188, 0, 6, 1, qX6_pieces), (197, 0, 10, 1, qX10_needLife), (200, 0, 0, 3, qX0_yearsWhen), (212, 0, 8, 1, qX8_renewHours), (215, 0, 6, 1, qX6_isAlive), (225, 0, 8, 2, qX8_factBits), (229, 0, 0, 4, qX0_wrongWhen), (233, 0, 1, 5, qX1_outcome), (237, 0, 0, 2, qX0_signerDead), (241, 0, 10, 1, qX10_piecesWrongBy), (244, 0, 10, 1, qX10_needPart), (253, 1, 0, 3, qX10_termOf), (257, 0, 0, 4, qX0_costWhen), (261, 0, 0, 2, qX0_riskWhen), (267, 0, 0, 2, qX0_hoursFor), (270, 0, 0, 2, qX0_savedRisk), (273, 0, 0, 1, qX0_firstOfAll), (277, 0, 10, 0, qX10_aheadMost), (283, 0, 8, 2, qX8_nextChange), (286, 0, 0, 4, qX0_lossAhead), (289, 0, 3, 2, qX3_prepare), (293, 0, 3, 0, qX3_leastLoss), (297, 0, 3, 1, qX3_writtenIn), (300, 0, 0, 3, qX0_riskAtAge), (304, 0, 10, 2, qX10_renewalPrice), (308, 0, 10, 4, qX10_needRumour), (312, 1, 0, 6, qX10_meanOf), (316, 1, 0, 5, qX10_bestWay), (319, 0, 10, 1, qX10_needBits), (322, 0, 10, 2, qX10_fillRoom), (325, 1, 0, 1, qX10_roomWorth), (328, 1, 0, 1, qX10_roomShift), (331, 0, 10, 0, qX10_look), (334, 0, 10, 2, qX10_tellsApart), (338, 0, 10, 1, qX10_weeksAsPage), (342, 0, 4, 3, qX4_play), (360, 0, 5, 1, qX5_copyFrom), (381, 0, 7, 1, qX7_open), (384, 1, 0, 2, qJ7_fill_53178), (390, 0, 10, 2, qX10_addToRoom), (394, 0, 2, 1, qX2_fits)]
theorem ckX10 : ∀ q ∈ caX10, pvCk RX10 q := fa_cons (⟨cv_X10_94, pn_X6⟩) (fa_cons (⟨cv_X10_104, pn_X7⟩) (fa_cons (⟨cv_X10_108, pn_X10⟩) (fa_cons (⟨cv_X10_112, pn_X8⟩) (fa_cons (⟨cv_X10_119, pn_X8⟩) (fa_cons (⟨cv_X10_122, pn_X1⟩) (fa_cons (⟨cv_X10_125, pn_X2⟩) (fa_cons (⟨cv_X10_135, pn_X3⟩) (fa_cons (⟨cv_X10_141, pn_X1⟩) (fa_cons (⟨cv_X10_142, pn_X9⟩) (fa_cons (⟨cv_X10_145, pn_X5⟩) (fa_cons (⟨cv_X10_151, pn_X9⟩) (fa_cons (⟨cv_X10_161, pn_X2⟩) (fa_cons (⟨cv_X10_166, pn_X5⟩) (fa_cons (⟨cv_X10_169, pn_X10⟩) (fa_cons (⟨cs_X10_182, pn_J6⟩) (fa_cons (⟨cv_X10_188, pn_X6⟩) (fa_cons (⟨cv_X10_197, pn_X10⟩) (fa_cons (⟨cv_X10_200, pn_X0⟩) (fa_cons (⟨cv_X10_212, pn_X8⟩) (fa_cons (⟨cv_X10_215, pn_X6⟩) (fa_cons (⟨cv_X10_225, pn_X8⟩) (fa_cons (⟨cv_X10_229, pn_X0⟩) (fa_cons (⟨cv_X10_233, pn_X1⟩) (fa_cons (⟨cv_X10_237, pn_X0⟩) (fa_cons (⟨cv_X10_241, pn_X10⟩) (fa_cons (⟨cv_X10_244, pn_X10⟩) (fa_cons (⟨cs_X10_253, pn_X10⟩) (fa_cons (⟨cv_X10_257, pn_X0⟩) (fa_cons (⟨cv_X10_261, pn_X0⟩) (fa_cons (⟨cv_X10_267, pn_X0⟩) (fa_cons (⟨cv_X10_270, pn_X0⟩) (fa_cons (⟨cv_X10_273, pn_X0⟩) (fa_cons (⟨cv_X10_277, pn_X10⟩) (fa_cons (⟨cv_X10_283, pn_X8⟩) (fa_cons (⟨cv_X10_286, pn_X0⟩) (fa_cons (⟨cv_X10_289, pn_X3⟩) (fa_cons (⟨cv_X10_293, pn_X3⟩) (fa_cons (⟨cv_X10_297, pn_X3⟩) (fa_cons (⟨cv_X10_300, pn_X0⟩) (fa_cons (⟨cv_X10_304, pn_X10⟩) (fa_cons (⟨cv_X10_308, pn_X10⟩) (fa_cons (⟨cs_X10_312, pn_X10⟩) (fa_cons (⟨cs_X10_316, pn_X10⟩) (fa_cons (⟨cv_X10_319, pn_X10⟩) (fa_cons (⟨cv_X10_322, pn_X10⟩) (fa_cons (⟨cs_X10_325, pn_X10⟩) (fa_cons (⟨cs_X10_328, pn_X10⟩) (fa_cons (⟨cv_X10_331, pn_X10⟩) (fa_cons (⟨cv_X10_334, pn_X10⟩) (fa_cons (⟨cv_X10_338, pn_X10⟩) (fa_cons (⟨cv_X10_342, pn_X4⟩) (fa_cons (⟨cv_X10_360, pn_X5⟩) (fa_cons (⟨cv_X10_381, pn_X7⟩) (fa_cons (⟨cs_X10_384, pn_J7⟩) (fa_cons (⟨cv_X10_390, pn_X10⟩) (fa_cons (⟨cv_X10_394, pn_X2⟩) (fa_nil)))))))))))))))))))))))))))))))))))))))))))))))))))))))))
abbrev lnX11 : scLn × List (Nat × Nat) := (([(9, 11, 3, 0, true), (13, 11, 9, 2, false), (17, 11, 10, 2, false), (20, 11, 11, 2, false), (23, 11, 12, 2, false), (28, 11, 13, 2, false), (31, 11, 14, 2, false), (34, 11, 15, 2, false), (37, 11, 16, 2, false), (40, 11, 19, 2, false), (43, 11, 20, 2, false), (46, 11, 21, 2, false), (49, 11, 22, 2, false), (52, 11, 23, 2, false), (55, 11, 24, 2, false), (58, 11, 25, 2, false), (61, 11, 27, 2, false), (64, 11, 28, 2, false), (67, 11, 29, 2, false), (70, 11, 30, 2, false), (73, 11, 38, 2, false), (77, 11, 39, 2, false), (80, 11, 40, 2, false), (83, 11, 41, 2, false), (86, 11, 42, 2, false), (89, 11, 44, 2, false), (92, 11, 45, 2, false), (101, 11, 0, 0, true), (104, 11, 1, 0, true), (107, 11, 2, 0, true), (110, 11, 4, 0, true), (117, 11, 5, 0, true), (120, 11, 6, 0, true), (157, 11, 7, 0, true), (160, 11, 8, 0, true), (194, 11, 17, 0, true), (197, 11, 31, 0, true), (200, 11, 32, 0, true), (203, 11, 33, 0, true), (206, 11, 34, 0, true), (209, 11, 18, 0, true), (250, 11, 26, 0, true), (310, 11, 36, 0, true), (320, 11, 37, 0, true), (361, 11, 43, 1, true), (400, 11, 46, 0, true), (426, 11, 47, 0, true), (429, 11, 48, 0, true), (436, 11, 35, 0, true)], [(134, .inl 100000), (343, .inr 64), (353, .inr 4096), (372, .inr (-1)), (383, .inr 255), (432, .inl 1103515245)], [], [(237, false), (240, true)], []), [])
theorem lkX11 : scLnk RX11 lnX11.1 ∧ (∀ q ∈ lnX11.2, ∀ G : fmG, q.2 < 5 ∧ ∃ tx : String, ∀ (A : Nat → Prop) (s : State), fmEnv G A s → vk_R RX11 q.1 tx (G.2.2.2.1 q.2) s) := ⟨⟨fa_cons (fd_iw fl_X11_9 rfl rfl) (fa_cons (fd_r fl_X11_13 (by decide)) (fa_cons (fd_r fl_X11_17 (by decide)) (fa_cons (fd_r fl_X11_20 (by decide)) (fa_cons (fd_r fl_X11_23 (by decide)) (fa_cons (fd_r fl_X11_28 (by decide)) (fa_cons (fd_r fl_X11_31 (by decide)) (fa_cons (fd_r fl_X11_34 (by decide)) (fa_cons (fd_r fl_X11_37 (by decide)) (fa_cons (fd_r fl_X11_40 (by decide)) (fa_cons (fd_r fl_X11_43 (by decide)) (fa_cons (fd_r fl_X11_46 (by decide)) (fa_cons (fd_r fl_X11_49 (by decide)) (fa_cons (fd_r fl_X11_52 (by decide)) (fa_cons (fd_r fl_X11_55 (by decide)) (fa_cons (fd_r fl_X11_58 (by decide)) (fa_cons (fd_r fl_X11_61 (by decide)) (fa_cons (fd_r fl_X11_64 (by decide)) (fa_cons (fd_r fl_X11_67 (by decide)) (fa_cons (fd_r fl_X11_70 (by decide)) (fa_cons (fd_r fl_X11_73 (by decide)) (fa_cons (fd_r fl_X11_77 (by decide)) (fa_cons (fd_r fl_X11_80 (by decide)) (fa_cons (fd_r fl_X11_83 (by decide)) (fa_cons (fd_r fl_X11_86 (by decide)) (fa_cons (fd_r fl_X11_89 (by decide)) (fa_cons (fd_r fl_X11_92 (by decide)) (fa_cons (fd_iw fl_X11_101 rfl rfl) (fa_cons (fd_iw fl_X11_104 rfl rfl) (fa_cons (fd_iw fl_X11_107 rfl rfl) (fa_cons (fd_iw fl_X11_110 rfl rfl) (fa_cons (fd_iw fl_X11_117 rfl rfl) (fa_cons (fd_iw fl_X11_120 rfl rfl) (fa_cons (fd_iw fl_X11_157 rfl rfl) (fa_cons (fd_iw fl_X11_160 rfl rfl) (fa_cons (fd_iw fl_X11_194 rfl rfl) (fa_cons (fd_iw fl_X11_197 rfl rfl) (fa_cons (fd_iw fl_X11_200 rfl rfl) (fa_cons (fd_iw fl_X11_203 rfl rfl) (fa_cons (fd_iw fl_X11_206 rfl rfl) (fa_cons (fd_iw fl_X11_209 rfl rfl) (fa_cons (fd_iw fl_X11_250 rfl rfl) (fa_cons (fd_iw fl_X11_310 rfl rfl) (fa_cons (fd_iw fl_X11_320 rfl rfl) (fa_cons (fd_jw fl_X11_361 rfl rfl) (fa_cons (fd_iw fl_X11_400 rfl rfl) (fa_cons (fd_iw fl_X11_426 rfl rfl) (fa_cons (fd_iw fl_X11_429 rfl rfl) (fa_cons (fd_iw fl_X11_436 rfl rfl) (fa_nil))))))))))))))))))))))))))))))))))))))))))))))))), fa_cons (kc_X11_134) (fa_cons (kc_X11_343) (fa_cons (kc_X11_353) (fa_cons (kc_X11_372) (fa_cons (kc_X11_383) (fa_cons (kc_X11_432) (fa_nil)))))), fa_nil, fa_cons (mm_less cs_X11_237) (fa_cons (mm_more cs_X11_240) (fa_nil)), fa_nil⟩, fa_nil⟩
abbrev caX11 : List pvCl := [(95, 0, 11, 0, qX11_tellsNothing), (98, 0, 11, 0, qX11_stands), (113, 0, 11, 1, qX11_byteAt), (123, 0, 11, 0, qX11_blanks), (126, 1, 0, 1, qX11_isDigit), (130, 0, 11, 2, qX11_wrongAt), (135, 1, 0, 3, qX11_in), (139, 1, 0, 1, qX11_isSmall), (142, 0, 11, 0, qX11_wordHere), (146, 1, 0, 5, qX11_five), (150, 0, 11, 5, qX11_isWord), (154, 0, 11, 0, qX11_skipWord), (163, 0, 11, 2, qX11_number), (167, 0, 11, 0, qX11_kindHere), (170, 0, 11, 0, qX11_lifeHere), (173, 0, 11, 1, qX11_sign), (177, 0, 11, 3, qX11_bad), (181, 0, 11, 1, qX11_starts), (184, 0, 11, 0, qX11_clause), (187, 0, 11, 0, qX11_ends), (190, 1, 0, 3, qX11_lays), (212, 0, 11, 0, qX11_product), (215, 0, 11, 1, qX11_takesSign), (218, 0, 11, 2, qX11_notes), (221, 0, 11, 0, qX11_one), (224, 0, 11, 5, qX11_takes), (227, 0, 11, 0, qX11_opens), (231, 0, 11, 0, qX11_sum), (234, 0, 11, 0, qX11_knownHere), (243, 1, 0, 3, qX11_by), (247, 0, 11, 0, qX11_stepHere), (253, 0, 11, 0, qX11_readsStep), (256, 1, 0, 2, qX11_has), (260, 0, 11, 0, qX11_byLaw), (263, 0, 11, 2, qX11_yearsOf), (266, 0, 11, 2, qX11_isByDead), (270, 0, 11, 3, qX11_changesOf), (273, 0, 11, 5, qX11_wrongBy), (276, 0, 11, 4, qX11_wrongIn), (280, 0, 11, 4, qX11_costIn), (283, 1, 0, 2, qX11_hasPiece), (287, 0, 11, 1, qX11_renewHours), (290, 0, 11, 2, qX11_hoursFor), (293, 0, 11, 2, qX11_costOf), (296, 0, 11, 2, qX11_mayWrite), (299, 0, 11, 2, qX11_writes), (303, 0, 11, 2, qX11_dies), (306, 0, 11, 1, qX11_weekEnds), (313, 0, 11, 2, qX11_goes), (316, 0, 11, 2, qX11_does), (323, 1, 0, 2, qX11_copies), (327, 0, 11, 1, qX11_aliveIn), (331, 0, 11, 1, qX11_isLife), (334, 0, 11, 2, qX11_factsAt), (337, 0, 11, 1, qX11_wrongOf), (340, 0, 11, 2, qX11_noPart), (345, 1, 0, 3, qX11_partOf), (349, 0, 11, 1, qX11_riskOf), (355, 0, 11, 2, qX11_saved), (358, 0, 11, 2, qX11_firstOf), (365, 1, 0, 2, qX11_power), (369, 1, 0, 3, qX11_roomOf), (374, 0, 11, 3, qX11_isOption), (377, 0, 11, 2, qX11_laysOption), (380, 0, 11, 1, qX11_laysBest), (385, 0, 11, 3, qX11_oftenBy), (389, 1, 0, 4, qX11_isRumour), (393, 1, 0, 6, qX11_bringsBy), (397, 1, 0, 5, qX11_saysBy), (403, 0, 11, 4, qX11_rooms), (407, 0, 11, 1, qX11_areLives), (410, 0, 11, 2, qX11_laysRoom), (413, 0, 11, 2, qX11_isApart), (416, 1, 0, 1, qX11_ones), (419, 0, 11, 1, qX11_writtenOf), (423, 0, 11, 1, qX11_riskIn), (433, 0, 11, 2, qX11_yearsBy), (439, 0, 11, 3, qX11_puts), (443, 0, 11, 2, qX11_putsAll)]
theorem ckX11 : ∀ q ∈ caX11, pvCk RX11 q := fa_cons (⟨cv_X11_95, pn_X11⟩) (fa_cons (⟨cv_X11_98, pn_X11⟩) (fa_cons (⟨cv_X11_113, pn_X11⟩) (fa_cons (⟨cv_X11_123, pn_X11⟩) (fa_cons (⟨cs_X11_126, pn_X11⟩) (fa_cons (⟨cv_X11_130, pn_X11⟩) (fa_cons (⟨cs_X11_135, pn_X11⟩) (fa_cons (⟨cs_X11_139, pn_X11⟩) (fa_cons (⟨cv_X11_142, pn_X11⟩) (fa_cons (⟨cs_X11_146, pn_X11⟩) (fa_cons (⟨cv_X11_150, pn_X11⟩) (fa_cons (⟨cv_X11_154, pn_X11⟩) (fa_cons (⟨cv_X11_163, pn_X11⟩) (fa_cons (⟨cv_X11_167, pn_X11⟩) (fa_cons (⟨cv_X11_170, pn_X11⟩) (fa_cons (⟨cv_X11_173, pn_X11⟩) (fa_cons (⟨cv_X11_177, pn_X11⟩) (fa_cons (⟨cv_X11_181, pn_X11⟩) (fa_cons (⟨cv_X11_184, pn_X11⟩) (fa_cons (⟨cv_X11_187, pn_X11⟩) (fa_cons (⟨cs_X11_190, pn_X11⟩) (fa_cons (⟨cv_X11_212, pn_X11⟩) (fa_cons (⟨cv_X11_215, pn_X11⟩) (fa_cons (⟨cv_X11_218, pn_X11⟩) (fa_cons (⟨cv_X11_221, pn_X11⟩) (fa_cons (⟨cv_X11_224, pn_X11⟩) (fa_cons (⟨cv_X11_227, pn_X11⟩) (fa_cons (⟨cv_X11_231, pn_X11⟩) (fa_cons (⟨cv_X11_234, pn_X11⟩) (fa_cons (⟨cs_X11_243, pn_X11⟩) (fa_cons (⟨cv_X11_247, pn_X11⟩) (fa_cons (⟨cv_X11_253, pn_X11⟩) (fa_cons (⟨cs_X11_256, pn_X11⟩) (fa_cons (⟨cv_X11_260, pn_X11⟩) (fa_cons (⟨cv_X11_263, pn_X11⟩) (fa_cons (⟨cv_X11_266, pn_X11⟩) (fa_cons (⟨cv_X11_270, pn_X11⟩) (fa_cons (⟨cv_X11_273, pn_X11⟩) (fa_cons (⟨cv_X11_276, pn_X11⟩) (fa_cons (⟨cv_X11_280, pn_X11⟩) (fa_cons (⟨cs_X11_283, pn_X11⟩) (fa_cons (⟨cv_X11_287, pn_X11⟩) (fa_cons (⟨cv_X11_290, pn_X11⟩) (fa_cons (⟨cv_X11_293, pn_X11⟩) (fa_cons (⟨cv_X11_296, pn_X11⟩) (fa_cons (⟨cv_X11_299, pn_X11⟩) (fa_cons (⟨cv_X11_303, pn_X11⟩) (fa_cons (⟨cv_X11_306, pn_X11⟩) (fa_cons (⟨cv_X11_313, pn_X11⟩) (fa_cons (⟨cv_X11_316, pn_X11⟩) (fa_cons (⟨cs_X11_323, pn_X11⟩) (fa_cons (⟨cv_X11_327, pn_X11⟩) (fa_cons (⟨cv_X11_331, pn_X11⟩) (fa_cons (⟨cv_X11_334, pn_X11⟩) (fa_cons (⟨cv_X11_337, pn_X11⟩) (fa_cons (⟨cv_X11_340, pn_X11⟩) (fa_cons (⟨cs_X11_345, pn_X11⟩) (fa_cons (⟨cv_X11_349, pn_X11⟩) (fa_cons (⟨cv_X11_355, pn_X11⟩) (fa_cons (⟨cv_X11_358, pn_X11⟩) (fa_cons (⟨cs_X11_365, pn_X11⟩) (fa_cons (⟨cs_X11_369, pn_X11⟩) (fa_cons (⟨cv_X11_374, pn_X11⟩) (fa_cons (⟨cv_X11_377, pn_X11⟩) (fa_cons (⟨cv_X11_380, pn_X11⟩) (fa_cons (⟨cv_X11_385, pn_X11⟩) (fa_cons (⟨cs_X11_389, pn_X11⟩) (fa_cons (⟨cs_X11_393, pn_X11⟩) (fa_cons (⟨cs_X11_397, pn_X11⟩) (fa_cons (⟨cv_X11_403, pn_X11⟩) (fa_cons (⟨cv_X11_407, pn_X11⟩) (fa_cons (⟨cv_X11_410, pn_X11⟩) (fa_cons (⟨cv_X11_413, pn_X11⟩) (fa_cons (⟨cs_X11_416, pn_X11⟩) (fa_cons (⟨cv_X11_419, pn_X11⟩) (fa_cons (⟨cv_X11_423, pn_X11⟩) (fa_cons (⟨cv_X11_433, pn_X11⟩) (fa_cons (⟨cv_X11_439, pn_X11⟩) (fa_cons (⟨cv_X11_443, pn_X11⟩) (fa_nil)))))))))))))))))))))))))))))))))))))))))))))))))))))))))))))))))))))))))))))))
abbrev lnJ6 : scLn × List (Nat × Nat) := (([], [(265, .inl 1431655765), (266, .inl 858993459), (267, .inl 252645135)], [], [], []), [])
theorem lkJ6 : scLnk RJ6 lnJ6.1 := ⟨fa_nil, fa_cons (kc_J6_265) (fa_cons (kc_J6_266) (fa_cons (kc_J6_267) (fa_nil))), fa_nil, fa_nil, fa_nil⟩
def pvK (own : String) : Nat := if own = RX0 then 0 else if own = RX1 then 1 else if own = RX2 then 2 else if own = RX3 then 3 else if own = RX4 then 4 else if own = RX5 then 5 else if own = RX6 then 6 else if own = RX7 then 7 else if own = RX8 then 8 else if own = RX9 then 9 else if own = RX10 then 10 else if own = RX11 then 11 else if own = RJ6 then 12 else 99
def pvLn (c : Nat) : scLn × List (Nat × Nat) := match c with
  | 0 => lnX0
  | 1 => lnX1
  | 2 => lnX2
  | 3 => lnX3
  | 4 => lnX4
  | 5 => lnX5
  | 6 => lnX6
  | 7 => lnX7
  | 8 => lnX8
  | 9 => lnX9
  | 10 => lnX10
  | 11 => lnX11
  | 12 => lnJ6
  | _ => (([], [], [], [], []), [])
def pvCa (c : Nat) : List pvCl := match c with
  | 0 => caX0
  | 1 => caX1
  | 2 => caX2
  | 3 => caX3
  | 4 => caX4
  | 5 => caX5
  | 6 => caX6
  | 7 => caX7
  | 8 => caX8
  | 9 => caX9
  | 10 => caX10
  | 11 => caX11
  | _ => []
theorem pvK_0 : pvK RX0 = 0 := by decide +kernel
theorem pvK_1 : pvK RX1 = 1 := by decide +kernel
theorem pvK_2 : pvK RX2 = 2 := by decide +kernel
theorem pvK_3 : pvK RX3 = 3 := by decide +kernel
theorem pvK_4 : pvK RX4 = 4 := by decide +kernel
theorem pvK_5 : pvK RX5 = 5 := by decide +kernel
theorem pvK_6 : pvK RX6 = 6 := by decide +kernel
theorem pvK_7 : pvK RX7 = 7 := by decide +kernel
theorem pvK_8 : pvK RX8 = 8 := by decide +kernel
theorem pvK_9 : pvK RX9 = 9 := by decide +kernel
theorem pvK_10 : pvK RX10 = 10 := by decide +kernel
theorem pvK_11 : pvK RX11 = 11 := by decide +kernel
theorem pvK_12 : pvK RJ6 = 12 := by decide +kernel
theorem pvT_ok (own : String) : (scLnk own (pvLn (pvK own)).1 ∧ (∀ q ∈ (pvLn (pvK own)).2, ∀ G : fmG, q.2 < 5 ∧ ∃ tx : String, ∀ (A : Nat → Prop) (s : State), fmEnv G A s → vk_R own q.1 tx (G.2.2.2.1 q.2) s)) ∧ (∀ q ∈ pvCa (pvK own), pvCk own q) ∧ (pvK own = 10 → own = RX10) := by
  by_cases h0 : own = RX0
  · subst h0
    rw [pvK_0]
    exact ⟨lkX0, ckX0, fun h => by cases h⟩
  by_cases h1 : own = RX1
  · subst h1
    rw [pvK_1]
    exact ⟨lkX1, ckX1, fun h => by cases h⟩
  by_cases h2 : own = RX2
  · subst h2
    rw [pvK_2]
    exact ⟨lkX2, ckX2, fun h => by cases h⟩
  by_cases h3 : own = RX3
  · subst h3
    rw [pvK_3]
    exact ⟨lkX3, ckX3, fun h => by cases h⟩
  by_cases h4 : own = RX4
  · subst h4
    rw [pvK_4]
    exact ⟨lkX4, ckX4, fun h => by cases h⟩
  by_cases h5 : own = RX5
  · subst h5
    rw [pvK_5]
    exact ⟨lkX5, ckX5, fun h => by cases h⟩
  by_cases h6 : own = RX6
  · subst h6
    rw [pvK_6]
    exact ⟨lkX6, ckX6, fun h => by cases h⟩
  by_cases h7 : own = RX7
  · subst h7
    rw [pvK_7]
    exact ⟨lkX7, ckX7, fun h => by cases h⟩
  by_cases h8 : own = RX8
  · subst h8
    rw [pvK_8]
    exact ⟨lkX8, ckX8, fun h => by cases h⟩
  by_cases h9 : own = RX9
  · subst h9
    rw [pvK_9]
    exact ⟨lkX9, ckX9, fun h => by cases h⟩
  by_cases h10 : own = RX10
  · subst h10
    rw [pvK_10]
    exact ⟨lkX10, ckX10, fun _ => rfl⟩
  by_cases h11 : own = RX11
  · subst h11
    rw [pvK_11]
    exact ⟨lkX11, ckX11, fun h => by cases h⟩
  by_cases h12 : own = RJ6
  · subst h12
    rw [pvK_12]
    exact ⟨⟨lkJ6, fa_nil⟩, fa_nil, fun h => by cases h⟩
  have e : pvK own = 99 := by simp only [pvK, h0, h1, h2, h3, h4, h5, h6, h7, h8, h9, h10, h11, h12, if_false]
  rw [e]
  exact ⟨⟨⟨fa_nil, fa_nil, fa_nil, fa_nil, fa_nil⟩, fa_nil⟩, fa_nil, fun h => by cases h⟩
end
-- P 10e
section
-- THE PURE MACHINE: it runs a method over the flat memory; a cell is written as the reference of its number, text i as reference 1000 + i
abbrev scCo : Type := Jvm.ClassFile.Cond
def scNeg (c : scCo) : scCo := match c with
  | .eq => .ne
  | .ne => .eq
  | .lt => .ge
  | .ge => .lt
  | .gt => .le
  | .le => .gt
def scRel (c : scCo) (x z : Int) : Prop := match c with
  | .eq => x = z
  | .ne => ¬ x = z
  | .lt => x < z
  | .ge => z ≤ x
  | .gt => z < x
  | .le => x ≤ z
def pvRel (c : scCo) (x z : Int) : Bool := match c with
  | .eq => decide (x = z)
  | .ne => !decide (x = z)
  | .lt => decide (x < z)
  | .ge => decide (z ≤ x)
  | .gt => decide (z < x)
  | .le => decide (x ≤ z)
theorem pvRel_t {c : scCo} {x z : Int} (h : pvRel c x z = true) : scRel c x z := by
  cases c <;> simpa [pvRel, scRel] using h
theorem pvRel_f {c : scCo} {x z : Int} (h : pvRel c x z = false) : scRel (scNeg c) x z := by
  cases c <;> simp [pvRel, scRel, scNeg] at h ⊢ <;> omega
theorem scRel_t {c : scCo} {x z : Int} (h : scRel c x z) : pvRel c x z = true := by
  cases c <;> simpa [pvRel, scRel] using h
theorem scRel_f {c : scCo} {x z : Int} (h : scRel (scNeg c) x z) : pvRel c x z = false := by
  cases c <;> simp [pvRel, scRel, scNeg] at h ⊢ <;> omega
theorem fm_icmp {T : fmT} {l : Launch} {G : fmG} {d : Nat} {y : fmY} {pc : Nat} {L : List (Option Value)} {st : List Value} {M : fmM} {Q : fmR → fmM → Prop} (c : scCo) {x z : Int32} {off : Int} {tgt : Nat} (ht : (pc : Int) + off = (tgt : Int)) (hdg : decode y.2.1 pc = .ok (.if_icmp c off, 3)) (kt : scRel c x.toInt z.toInt → fmEv T l G d y tgt L st M Q) (kf : scRel (scNeg c) x.toInt z.toInt → fmEv T l G d y (pc + 3) L st M Q) : fmEv T l G d y pc L (.int z :: .int x :: st) M Q := by
  cases c with
  | eq => exact fm_icmp_eq tgt ht hdg (fun h => kt (scq_eq.mp h)) (fun h => kf (fun e => h (scq_eq.mpr e)))
  | ne => exact fm_icmp_ne tgt ht hdg (fun h => kt (fun e => h (scq_eq.mpr e))) (fun h => kf (scq_eq.mp h))
  | lt => exact fm_icmp_lt tgt ht hdg (fun h => kt (sc_lt.mp h)) (fun h => kf (show z.toInt ≤ x.toInt by rw [sc_lt] at h; omega))
  | ge => exact fm_icmp_ge tgt ht hdg (fun h => kt (sc_le.mp h)) (fun h => kf (show x.toInt < z.toInt by rw [sc_le] at h; omega))
  | gt => exact fm_icmp_gt tgt ht hdg (fun h => kt (sc_lt.mp h)) (fun h => kf (show x.toInt ≤ z.toInt by rw [sc_lt] at h; omega))
  | le => exact fm_icmp_le tgt ht hdg (fun h => kt (sc_le.mp h)) (fun h => kf (show z.toInt < x.toInt by rw [sc_le] at h; omega))
theorem fm_ifc {T : fmT} {l : Launch} {G : fmG} {d : Nat} {y : fmY} {pc : Nat} {L : List (Option Value)} {st : List Value} {M : fmM} {Q : fmR → fmM → Prop} (c : scCo) {x : Int32} {off : Int} {tgt : Nat} (ht : (pc : Int) + off = (tgt : Int)) (hdg : decode y.2.1 pc = .ok (.ifCond c off, 3)) (kt : scRel c x.toInt 0 → fmEv T l G d y tgt L st M Q) (kf : scRel (scNeg c) x.toInt 0 → fmEv T l G d y (pc + 3) L st M Q) : fmEv T l G d y pc L (.int x :: st) M Q := by
  have z0 : (0 : Int32).toInt = 0 := by decide
  cases c with
  | eq => exact fm_if_eq tgt ht hdg (fun h => kt ((scq_eq.mp h).trans z0)) (fun h => kf (fun e => h (scq_eq.mpr (e.trans z0.symm))))
  | ne => exact fm_if_ne tgt ht hdg (fun h => kt (fun e => h (scq_eq.mpr (e.trans z0.symm)))) (fun h => kf ((scq_eq.mp h).trans z0))
  | lt => exact fm_if_lt tgt ht hdg (fun h => kt (show x.toInt < 0 by rw [sc_lt] at h; omega)) (fun h => kf (show 0 ≤ x.toInt by rw [sc_lt] at h; omega))
  | ge => exact fm_if_ge tgt ht hdg (fun h => kt (show 0 ≤ x.toInt by rw [sc_le] at h; omega)) (fun h => kf (show x.toInt < 0 by rw [sc_le] at h; omega))
  | gt => exact fm_if_gt tgt ht hdg (fun h => kt (show 0 < x.toInt by rw [sc_lt] at h; omega)) (fun h => kf (show x.toInt ≤ 0 by rw [sc_lt] at h; omega))
  | le => exact fm_if_le tgt ht hdg (fun h => kt (show x.toInt ≤ 0 by rw [sc_le] at h; omega)) (fun h => kf (show 0 < x.toInt by rw [sc_le] at h; omega))
abbrev pvS : Type := Nat × List (Option Value) × List Value × fmM
/-- a step's end: another state; the method's end; a call (method, arguments, where it goes on, with which stack) -/
abbrev pvO : Type := pvS ⊕ ((fmR × fmM) ⊕ (fmY × List Value × Nat × List Value))
def pvN (pc : Nat) (L : List (Option Value)) (st : List Value) (M : fmM) : Option pvO := some (.inl (pc, L, st, M))
def pvR (r : fmR) (M : fmM) : Option pvO := some (.inr (.inl (r, M)))
def pvI1 (f : Int32 → Int32) (pc : Nat) (L : List (Option Value)) (st : List Value) (M : fmM) : Option pvO := match st with
  | .int x :: st => pvN pc L (.int (f x) :: st) M
  | _ => none
def pvI2 (f : Int32 → Int32 → Int32) (pc : Nat) (L : List (Option Value)) (st : List Value) (M : fmM) : Option pvO := match st with
  | .int z :: .int x :: st => pvN pc L (.int (f x z) :: st) M
  | _ => none
def pvJ2 (f : Int64 → Int64 → Int64) (pc : Nat) (L : List (Option Value)) (st : List Value) (M : fmM) : Option pvO := match st with
  | .long z :: .long x :: st => pvN pc L (.long (f x z) :: st) M
  | _ => none
def pvJI (f : Int64 → Int32 → Int64) (pc : Nat) (L : List (Option Value)) (st : List Value) (M : fmM) : Option pvO := match st with
  | .int z :: .long x :: st => pvN pc L (.long (f x z) :: st) M
  | _ => none
def pvLoad (pc i t : Nat) (L : List (Option Value)) (st : List Value) (M : fmM) : Option pvO := match L.getD i none with
  | some (.int x) => if Nat.beq t 0 then pvN pc L (.int x :: st) M else none
  | some (.long x) => if Nat.beq t 1 then pvN pc L (.long x :: st) M else none
  | some (.ref x) => if Nat.beq t 2 then pvN pc L (.ref x :: st) M else none
  | _ => none
/-- a long whose second half is written is gone -/
def pvKill (L : List (Option Value)) (i : Nat) : List (Option Value) := match i with
  | 0 => L
  | j + 1 => if fmNo2 L (j + 1) then L else L.set j none
def pvStor (n pc i t : Nat) (L : List (Option Value)) (st : List Value) (M : fmM) : Option pvO := match st with
  | .int x :: st => if Nat.beq t 0 && Nat.blt i n then pvN pc ((pvKill L i).set i (some (.int x))) st M else none
  | .long x :: st => if Nat.beq t 1 && Nat.blt (i + 1) n then pvN pc (((pvKill L i).set i (some (.long x))).set (i + 1) none) st M else none
  | .ref x :: st => if Nat.beq t 2 && Nat.blt i n then pvN pc ((pvKill L i).set i (some (.ref x))) st M else none
  | _ => none
def pvBr (b : Bool) (pc : Nat) (off : Int) (L : List (Option Value)) (st : List Value) (M : fmM) : Option pvO := if decide (0 ≤ (pc : Int) + off) then (if b then pvN ((pc : Int) + off).toNat L st M else pvN (pc + 3) L st M) else none
def pvFd (own : String) (idx : Nat) : Option scFd := (pvLn (pvK own)).1.1.find? (fun f => Nat.beq f.1 idx)
def pvOb (T : fmT) (k : Nat) (f : scFd) : Bool := Nat.blt k T.1 && Nat.beq (T.2.1 k) (f.2.1 + 6) && Nat.blt f.2.2.1 (T.2.2.1 k)
def pvGet (T : fmT) (own : String) (pc idx : Nat) (L : List (Option Value)) (st : List Value) (M : fmM) : Option pvO := match st with
  | .ref k :: st => match pvFd own idx with
    | some f => if pvOb T k f then (match f.2.2.2.1 with
      | 0 => pvN pc L (.int (M.1 k f.2.2.1) :: st) M
      | 1 => pvN pc L (.long (M.2 k f.2.2.1) :: st) M
      | 2 => if Nat.blt (T.2.2.2 k f.2.2.1) 1000 then pvN pc L (.ref (T.2.2.2 k f.2.2.1) :: st) M else none
      | _ => none) else none
    | none => none
  | _ => none
def pvPut (T : fmT) (own : String) (pc idx : Nat) (L : List (Option Value)) (st : List Value) (M : fmM) : Option pvO := match st with
  | v :: .ref k :: st => match pvFd own idx with
    | some f => if pvOb T k f && f.2.2.2.2 then (match f.2.2.2.1, v with
      | 0, .int x => pvN pc L st (fmI M k f.2.2.1 x)
      | 1, .long x => pvN pc L st (fmJ M k f.2.2.1 x)
      | _, _ => none) else none
    | none => none
  | _ => none
def pvIx (T : fmT) (k kd : Nat) (i : Int32) : Bool := Nat.blt k T.1 && Nat.beq (T.2.1 k) kd && decide (0 ≤ i.toInt) && decide (i.toInt < (T.2.2.1 k : Int))
def pvAld (T : fmT) (kd pc : Nat) (L : List (Option Value)) (st : List Value) (M : fmM) : Option pvO := match st with
  | .int i :: .ref k :: st => if pvIx T k kd i then (match kd with
    | 1 => pvN pc L (.long (M.2 k i.toNatClampNeg) :: st) M
    | _ => pvN pc L (.int (M.1 k i.toNatClampNeg) :: st) M) else none
  | _ => none
def pvAst (T : fmT) (kd pc : Nat) (L : List (Option Value)) (st : List Value) (M : fmM) : Option pvO := match st with
  | v :: .int i :: .ref k :: st => if pvIx T k kd i then (match kd, v with
    | 0, .int x => pvN pc L st (fmI M k i.toNatClampNeg x)
    | 1, .long x => pvN pc L st (fmJ M k i.toNatClampNeg x)
    | 2, .int x => pvN pc L st (fmI M k i.toNatClampNeg (vp_nar .byte x))
    | _, _ => none) else none
  | _ => none
def pvAald (T : fmT) (pc : Nat) (L : List (Option Value)) (st : List Value) (M : fmM) : Option pvO := match st with
  | .int i :: .ref k :: st => if (pvIx T k 3 i || pvIx T k 4 i || pvIx T k 5 i) && Nat.blt (T.2.2.2 k i.toNatClampNeg) 1000 then pvN pc L (.ref (T.2.2.2 k i.toNatClampNeg) :: st) M else none
  | _ => none
def pvAlen (T : fmT) (pc : Nat) (L : List (Option Value)) (st : List Value) (M : fmM) : Option pvO := match st with
  | .ref k :: st => if Nat.blt k T.1 && (Nat.beq (T.2.1 k) 0 || Nat.beq (T.2.1 k) 1) then pvN pc L (.int (Int32.ofNat (T.2.2.1 k)) :: st) M else none
  | _ => none
def pvKc (own : String) (idx : Nat) : Option (Nat × (Int32 ⊕ Int64)) := (pvLn (pvK own)).1.2.1.find? (fun q => Nat.beq q.1 idx)
def pvTx (own : String) (idx : Nat) : Option (Nat × Nat) := (pvLn (pvK own)).2.find? (fun q => Nat.beq q.1 idx)
def pvMm (own : String) (idx : Nat) : Option (Nat × Bool) := (pvLn (pvK own)).1.2.2.2.1.find? (fun q => Nat.beq q.1 idx)
def pvMl (own : String) (idx : Nat) : Option (Nat × Bool) := (pvLn (pvK own)).1.2.2.2.2.find? (fun q => Nat.beq q.1 idx)
def pvCp (own : String) (idx : Nat) : Bool := (pvLn (pvK own)).1.2.2.1.any (fun q => Nat.beq q idx)
def pvCq (own : String) (idx : Nat) : Option pvCl := (pvCa (pvK own)).find? (fun q => Nat.beq q.1 idx)
def pvCat (st : List Value) : Nat := (st.map fun v => v.category).sum
def pvLdc (own : String) (pc idx : Nat) (L : List (Option Value)) (st : List Value) (M : fmM) : Option pvO := match pvKc own idx with
  | some (_, .inl v) => pvN pc L (.int v :: st) M
  | some _ => none
  | none => match pvTx own idx with
    | some q => pvN pc L (.ref (1000 + q.2) :: st) M
    | none => none
def pvLdcw (own : String) (pc idx : Nat) (L : List (Option Value)) (st : List Value) (M : fmM) : Option pvO := match pvKc own idx with
  | some (_, .inl v) => pvN pc L (.int v :: st) M
  | _ => none
def pvLdc2 (own : String) (pc idx : Nat) (L : List (Option Value)) (st : List Value) (M : fmM) : Option pvO := match pvKc own idx with
  | some (_, .inr v) => pvN pc L (.long v :: st) M
  | _ => none
def pvCopy (T : fmT) (pc : Nat) (L : List (Option Value)) (st : List Value) (M : fmM) : Option pvO := match st with
  | .int n :: .int dp :: .ref k1 :: .int sp :: .ref k0 :: st => if Nat.blt k0 T.1 && Nat.beq (T.2.1 k0) 0 && Nat.blt k1 T.1 && Nat.beq (T.2.1 k1) 0 && decide (0 ≤ sp.toInt) && decide (0 ≤ dp.toInt) && decide (0 ≤ n.toInt) && Nat.ble (sp.toNatClampNeg + n.toNatClampNeg) (T.2.2.1 k0) && Nat.ble (dp.toNatClampNeg + n.toNatClampNeg) (T.2.2.1 k1) && Nat.ble (pvCat st) 60 then pvN pc L st (fmA M k1 (va_cpy (M.1 k0) (M.1 k1) sp.toNatClampNeg dp.toNatClampNeg n.toNatClampNeg)) else none
  | _ => none
def pvCal (T : fmT) (d pc : Nat) (L : List (Option Value)) (st : List Value) (M : fmM) (stat : Bool) (q : pvCl) : Option pvO := if Nat.ble q.2.2.2.1 st.length then (match q.2.1, stat with
  | 0, false => match st.drop q.2.2.2.1 with
    | .ref k :: st' => if Nat.blt k T.1 && Nat.beq (T.2.1 k) (q.2.2.1 + 6) && Nat.ble (pvCat st') 8 then some (.inr (.inr (q.2.2.2.2, .ref k :: (st.take q.2.2.2.1).reverse, pc, st'))) else none
    | _ => none
  | 1, true => if Nat.ble (pvCat (st.drop q.2.2.2.1)) 8 then some (.inr (.inr (q.2.2.2.2, (st.take q.2.2.2.1).reverse, pc, st.drop q.2.2.2.1))) else none
  | 2, false => match st with
    | .ref r :: st' => if Nat.ble 1000 r && Nat.blt (r - 1000) 5 && Nat.ble 2 d && Nat.ble (pvCat st') 8 then pvN pc L (.int (nI (fmLen.getD (r - 1000) 0)) :: st') M else none
    | _ => none
  | 3, false => match st with
    | .int x :: .ref r :: st' => if Nat.ble 1000 r && Nat.blt (r - 1000) 5 && Nat.ble 4 d && Nat.ble (pvCat st') 8 && decide (0 ≤ x.toInt) && decide (x.toInt < (fmLen.getD (r - 1000) 0 : Int)) then pvN pc L (.int (chE (r - 1000) x.toNatClampNeg) :: st') M else none
    | _ => none
  | _, _ => none) else none
def pvVirt (T : fmT) (d : Nat) (own : String) (pc idx : Nat) (L : List (Option Value)) (st : List Value) (M : fmM) : Option pvO := match pvCq own idx with
  | some q => pvCal T d pc L st M false q
  | none => none
def pvStat (T : fmT) (d : Nat) (own : String) (pc idx : Nat) (L : List (Option Value)) (st : List Value) (M : fmM) : Option pvO := match pvMm own idx with
  | some q => match st with
    | .int z :: .int x :: st => if Nat.ble 1 d && Nat.ble (pvCat st) 8 then pvN pc L (.int (pvMx q.2 x z) :: st) M else none
    | _ => none
  | none => if pvCp own idx then pvCopy T pc L st M else (match pvMl own idx with
    | some q => match st with
      | .long z :: .long x :: st => if Nat.ble 1 d && Nat.ble (pvCat st) 8 then pvN pc L (.long (pvMxl q.2 x z) :: st) M else none
      | _ => none
    | none => match pvCq own idx with
      | some q => pvCal T d pc L st M true q
      | none => none)
def pvThr (y : fmY) (pc idx : Nat) (st : List Value) (M : fmM) : Option pvO := match st with
  | [] => if Nat.beq (pvK y.1.cls) 10 && decide (decode y.2.1 (pc + 3) = .ok (.dup, 1)) && decide (decode y.2.1 (pc + 10) = .ok (.athrow, 1)) then (if Nat.beq idx 376 && decide (decode y.2.1 (pc + 4) = .ok (.ldc_w 378, 3)) && decide (decode y.2.1 (pc + 7) = .ok (.invokespecial 380, 3)) then pvR (.inr fmIAE) M else if Nat.beq idx 369 && decide (decode y.2.1 (pc + 4) = .ok (.ldc_w 371, 3)) && decide (decode y.2.1 (pc + 7) = .ok (.invokespecial 373, 3)) then pvR (.inr fmNSE) M else none) else none
  | _ => none
def pvRetI (rt : Option FieldType) (v : Int32) (M : fmM) : Option pvO := match rt with
  | some .int => pvR (.inl (some (.int v))) M
  | some .boolean => if decide (v = 0) || decide (v = 1) then pvR (.inl (some (.int v))) M else none
  | _ => none
def pvStp (T : fmT) (d : Nat) (y : fmY) (pc : Nat) (i : Instr) (L : List (Option Value)) (st : List Value) (M : fmM) : Option pvO := match i with
  | .iconst n => pvN (pc + 1) L (.int (Int32.ofInt n) :: st) M
  | .bipush n => pvN (pc + 2) L (.int (Int8.ofInt n).toInt32 :: st) M
  | .sipush n => pvN (pc + 3) L (.int (Int16.ofInt n).toInt32 :: st) M
  | .lconst n => pvN (pc + 1) L (.long (Int64.ofNat (n : Nat)) :: st) M
  | .iload_n n => pvLoad (pc + 1) (n : Nat) 0 L st M
  | .iload n => pvLoad (pc + 2) n 0 L st M
  | .lload_n n => pvLoad (pc + 1) (n : Nat) 1 L st M
  | .lload n => pvLoad (pc + 2) n 1 L st M
  | .aload_n n => pvLoad (pc + 1) (n : Nat) 2 L st M
  | .aload n => pvLoad (pc + 2) n 2 L st M
  | .istore_n n => pvStor y.2.2.1 (pc + 1) (n : Nat) 0 L st M
  | .istore n => pvStor y.2.2.1 (pc + 2) n 0 L st M
  | .lstore_n n => pvStor y.2.2.1 (pc + 1) (n : Nat) 1 L st M
  | .lstore n => pvStor y.2.2.1 (pc + 2) n 1 L st M
  | .astore_n n => pvStor y.2.2.1 (pc + 1) (n : Nat) 2 L st M
  | .astore n => pvStor y.2.2.1 (pc + 2) n 2 L st M
  | .iinc n v => match L.getD n none with
    | some (.int x) => if Nat.blt n y.2.2.1 then pvN (pc + 3) ((pvKill L n).set n (some (.int (x + Int32.ofInt v)))) st M else none
    | _ => none
  | .iadd => pvI2 (fun x z => x + z) (pc + 1) L st M
  | .isub => pvI2 (fun x z => x - z) (pc + 1) L st M
  | .imul => pvI2 (fun x z => x * z) (pc + 1) L st M
  | .idiv => match st with
    | .int z :: .int x :: st => if z = 0 then none else pvN (pc + 1) L (.int (x / z) :: st) M
    | _ => none
  | .irem => match st with
    | .int z :: .int x :: st => if z = 0 then none else pvN (pc + 1) L (.int (x - x / z * z) :: st) M
    | _ => none
  | .iand => pvI2 (fun x z => x &&& z) (pc + 1) L st M
  | .ior => pvI2 (fun x z => x ||| z) (pc + 1) L st M
  | .ixor => pvI2 (fun x z => x ^^^ z) (pc + 1) L st M
  | .ishl => pvI2 (fun x z => x <<< (z &&& 31)) (pc + 1) L st M
  | .ishr => pvI2 (fun x z => x >>> (z &&& 31)) (pc + 1) L st M
  | .iushr => pvI2 (fun x z => (x.toUInt32 >>> (z.toUInt32 &&& Int32.toUInt32 31)).toInt32) (pc + 1) L st M
  | .ineg => pvI1 (fun x => -x) (pc + 1) L st M
  | .i2b => pvI1 (fun x => x.toInt8.toInt32) (pc + 1) L st M
  | .i2l => match st with
    | .int x :: st => pvN (pc + 1) L (.long x.toInt64 :: st) M
    | _ => none
  | .l2i => match st with
    | .long x :: st => pvN (pc + 1) L (.int x.toInt32 :: st) M
    | _ => none
  | .ladd => pvJ2 (fun x z => x + z) (pc + 1) L st M
  | .lsub => pvJ2 (fun x z => x - z) (pc + 1) L st M
  | .lmul => pvJ2 (fun x z => x * z) (pc + 1) L st M
  | .land => pvJ2 (fun x z => x &&& z) (pc + 1) L st M
  | .lor => pvJ2 (fun x z => x ||| z) (pc + 1) L st M
  | .lxor => pvJ2 (fun x z => x ^^^ z) (pc + 1) L st M
  | .ldiv => match st with
    | .long z :: .long x :: st => if z = 0 then none else pvN (pc + 1) L (.long (x / z) :: st) M
    | _ => none
  | .lrem => match st with
    | .long z :: .long x :: st => if z = 0 then none else pvN (pc + 1) L (.long (x - x / z * z) :: st) M
    | _ => none
  | .lshl => pvJI (fun x z => x <<< (z.toInt64 &&& 63)) (pc + 1) L st M
  | .lshr => pvJI (fun x z => x >>> (z.toInt64 &&& 63)) (pc + 1) L st M
  | .lcmp => match st with
    | .long z :: .long x :: st => pvN (pc + 1) L (.int (lg_cmp x z) :: st) M
    | _ => none
  | .dup => match st with
    | v :: st => if v.category = 1 then pvN (pc + 1) L (v :: v :: st) M else none
    | _ => none
  | .dup2 => match st with
    | .long x :: st => pvN (pc + 1) L (.long x :: .long x :: st) M
    | v :: u :: st => if v.category = 1 ∧ u.category = 1 then pvN (pc + 1) L (v :: u :: v :: u :: st) M else none
    | _ => none
  | .dup_x1 => match st with
    | v :: u :: st => if v.category = 1 ∧ u.category = 1 then pvN (pc + 1) L (v :: u :: v :: st) M else none
    | _ => none
  | .pop => match st with
    | v :: st => if v.category = 1 then pvN (pc + 1) L st M else none
    | _ => none
  | .goto off => if decide (0 ≤ (pc : Int) + off) then pvN ((pc : Int) + off).toNat L st M else none
  | .ifCond c off => match st with
    | .int x :: st => pvBr (pvRel c x.toInt 0) pc off L st M
    | _ => none
  | .if_icmp c off => match st with
    | .int z :: .int x :: st => pvBr (pvRel c x.toInt z.toInt) pc off L st M
    | _ => none
  | .getfield idx => pvGet T y.1.cls (pc + 3) idx L st M
  | .putfield idx => pvPut T y.1.cls (pc + 3) idx L st M
  | .iaload => pvAld T 0 (pc + 1) L st M
  | .laload => pvAld T 1 (pc + 1) L st M
  | .baload => pvAld T 2 (pc + 1) L st M
  | .iastore => pvAst T 0 (pc + 1) L st M
  | .lastore => pvAst T 1 (pc + 1) L st M
  | .bastore => pvAst T 2 (pc + 1) L st M
  | .aaload => pvAald T (pc + 1) L st M
  | .arraylength => pvAlen T (pc + 1) L st M
  | .ldc idx => pvLdc y.1.cls (pc + 2) idx L st M
  | .ldc_w idx => pvLdcw y.1.cls (pc + 3) idx L st M
  | .ldc2_w idx => pvLdc2 y.1.cls (pc + 3) idx L st M
  | .tableswitch dflt lo hi offs => match st with
    | .int x :: st => if decide (offs.size = (hi - lo + 1).toNat) && decide (0 ≤ fmTsw pc dflt lo hi offs x) then pvN (fmTsw pc dflt lo hi offs x).toNat L st M else none
    | _ => none
  | .lookupswitch dflt ps => match st with
    | .int x :: st => if (ps.toList.zip (ps.toList.drop 1)).all (fun (a, next) => a.1 < next.1) && decide (0 ≤ (pc : Int) + Op.lookupswitch.offset ps.toList dflt x.toInt) then pvN ((pc : Int) + Op.lookupswitch.offset ps.toList dflt x.toInt).toNat L st M else none
    | _ => none
  | .invokevirtual idx => pvVirt T d y.1.cls (pc + 3) idx L st M
  | .invokestatic idx => pvStat T d y.1.cls (pc + 3) idx L st M
  | .new idx => pvThr y pc idx st M
  | .ireturn => match st with
    | [.int v] => pvRetI y.2.2.2 v M
    | _ => none
  | .lreturn => match st with
    | [.long v] => if y.2.2.2 = some .long then pvR (.inl (some (.long v))) M else none
    | _ => none
  | .return_ => match st with
    | [] => if y.2.2.2 = none then pvR (.inl none) M else none
    | _ => none
  | _ => none
def scLen (i : Instr) : Nat := match i with
  | .aload _ | .iload _ | .lload _ | .astore _ | .istore _ | .lstore _ | .bipush _ | .ldc _ => 2
  | .sipush _ | .iinc _ _ | .getfield _ | .putfield _ | .goto _ | .ifCond _ _ | .if_icmp _ _ | .invokestatic _ | .invokevirtual _ | .ldc_w _ | .ldc2_w _ | .new _ => 3
  | _ => 1
def pvSw (i : Instr) : Bool := match i with
  | .tableswitch _ _ _ _ => true
  | .lookupswitch _ _ => true
  | _ => false
def pvEnt (y : fmY) (args : List Value) : List (Option Value) := fmArgs args ++ List.replicate (y.2.2.1 - (fmArgs args).length) none
def pvX (T : fmT) : Nat → Nat → fmY → Nat → List (Option Value) → List Value → fmM → Option (fmR × fmM)
  | 0, _, _, _, _, _, _ => none
  | n + 1, d, y, pc, L, st, M => match decode y.2.1 pc with
    | .ok (i, len) => if pvSw i || Nat.beq len (scLen i) then (match pvStp T d y pc i L st M with
      | some (.inl q) => pvX T n d y q.1 q.2.1 q.2.2.1 q.2.2.2
      | some (.inr (.inl r)) => some r
      | some (.inr (.inr q)) => match d with
        | 0 => none
        | d' + 1 => if Nat.ble (lg_sl q.2.1).length q.1.2.2.1 then (match pvX T n d' q.1 0 (pvEnt q.1 q.2.1) [] M with
          | some (.inl v, M1) => pvX T n (d' + 1) y q.2.2.1 L (v.toList ++ q.2.2.2) M1
          | some (.inr E, M1) => some (.inr E, M1)
          | none => none) else none
      | none => none) else none
    | .error _ => none
end
-- P 10e2
section
-- THE PURE MACHINE IS SOUND
def pvTr (G : fmG) (v : Value) : Value := match v with
  | .ref k => .ref (if k < 1000 then G.1 k else G.2.2.2.1 (k - 1000))
  | v => v
def pvTs (G : fmG) (st : List Value) : List Value := st.map (pvTr G)
def pvTl (G : fmG) (L : List (Option Value)) : List (Option Value) := L.map (Option.map (pvTr G))
def pvTo (G : fmG) (o : fmR) : fmR := match o with
  | .inl v => .inl (v.map (pvTr G))
  | .inr E => .inr E
section PvTr
variable {G : fmG}
theorem pvTr_c {k : Nat} (h : k < 1000) : pvTr G (.ref k) = .ref (G.1 k) := by simp [pvTr, h]
theorem pvTr_t (i : Nat) : pvTr G (.ref (1000 + i)) = .ref (G.2.2.2.1 i) := by
  have h : ¬ 1000 + i < 1000 := by omega
  simp only [pvTr, if_neg h, Nat.add_sub_cancel_left]
theorem pvTr_t' {k : Nat} (h : 1000 ≤ k) : pvTr G (.ref k) = .ref (G.2.2.2.1 (k - 1000)) := by simp [pvTr, Nat.not_lt.mpr h]
theorem pvTr_cat (v : Value) : (pvTr G v).category = v.category := by cases v <;> rfl
theorem pvTl_at {L : List (Option Value)} {i : Nat} {v : Value} (h : L.getD i none = some v) : (pvTl G L)[i]? = some (some (pvTr G v)) := by
  simp only [List.getD] at h
  cases hL : L[i]? with
  | none => rw [hL] at h; simp at h
  | some q =>
    rw [hL] at h
    simp at h
    subst h
    simp [pvTl, hL]
theorem pvTl_set {L : List (Option Value)} {i : Nat} {w : Option Value} : pvTl G (L.set i w) = (pvTl G L).set i (w.map (pvTr G)) := by
  simp [pvTl, List.map_set]
theorem pvTl_no2 {L : List (Option Value)} {i : Nat} : fmNo2 (pvTl G L) i = fmNo2 L i := by
  cases i with
  | zero => rfl
  | succ j =>
    simp only [fmNo2, pvTl, List.getElem?_map]
    cases L[j]? with
    | none => rfl
    | some q =>
      cases q with
      | none => rfl
      | some v => simp [pvTr_cat]
theorem pvTs_cat {st : List Value} : ((pvTs G st).map fun v => v.category).sum = pvCat st := by
  simp only [pvTs, pvCat, List.map_map]
  congr 1
  apply List.map_congr_left
  intro v _
  exact pvTr_cat v
theorem pvTs_args : ∀ {args : List Value}, fmArgs (pvTs G args) = pvTl G (fmArgs args)
  | [] => rfl
  | v :: vs => by
    show fmArgs (pvTr G v :: pvTs G vs) = _
    simp only [fmArgs, pvTr_cat]
    rw [pvTs_args (args := vs)]
    split <;> rfl
theorem pvTs_sl : ∀ {args : List Value}, (lg_sl (pvTs G args)).length = (lg_sl args).length
  | [] => rfl
  | v :: vs => by
    have ih := pvTs_sl (args := vs)
    simp only [lg_sl, pvTs, List.map_cons, List.flatMap_cons, List.length_append, pvTr_cat] at ih ⊢
    rw [ih]
    split <;> rfl
theorem pvEnt_tr {y : fmY} {args : List Value} : fmArgs (pvTs G args) ++ List.replicate (y.2.2.1 - (fmArgs (pvTs G args)).length) none = pvTl G (pvEnt y args) := by
  rw [pvTs_args]
  simp [pvEnt, pvTl]
end PvTr
/-- what a step's end means over the machine -/
def pvSt (T : fmT) (l : Launch) (G : fmG) (d : Nat) (y : fmY) (pc : Nat) (L : List (Option Value)) (st : List Value) (M : fmM) (r : pvO) : Prop := match r with
  | .inl q => ∀ Q : fmR → fmM → Prop, fmEv T l G d y q.1 (pvTl G q.2.1) (pvTs G q.2.2.1) q.2.2.2 Q → fmEv T l G d y pc (pvTl G L) (pvTs G st) M Q
  | .inr (.inl q) => ∀ Q : fmR → fmM → Prop, Q (pvTo G q.1) q.2 → fmEv T l G d y pc (pvTl G L) (pvTs G st) M Q
  | .inr (.inr q) => plainName q.1.1.cls = true ∧ ∀ (Q : fmR → fmM → Prop) (d' : Nat), d' + 1 ≤ d → fmGood T l G d' q.1 (pvTs G q.2.1) M (fmThen T l G d y q.2.2.1 (pvTl G L) (pvTs G q.2.2.2) Q) → fmEv T l G d y pc (pvTl G L) (pvTs G st) M Q
section PvSound
variable {T : fmT} {l : Launch} {G : fmG} {d : Nat} {y : fmY} {pc pc' : Nat} {L : List (Option Value)} {st : List Value} {M : fmM} {r : pvO}
theorem pvI1_ok {f : Int32 → Int32} (row : ∀ (x : Int32) (st : List Value) (Q : fmR → fmM → Prop), fmEv T l G d y pc' (pvTl G L) (.int (f x) :: st) M Q → fmEv T l G d y pc (pvTl G L) (.int x :: st) M Q) (h : pvI1 f pc' L st M = some r) : pvSt T l G d y pc L st M r := by
  unfold pvI1 at h
  split at h
  · cases h
    exact fun Q k => row _ _ Q k
  · cases h
theorem pvI2_ok {f : Int32 → Int32 → Int32} (row : ∀ (x z : Int32) (st : List Value) (Q : fmR → fmM → Prop), fmEv T l G d y pc' (pvTl G L) (.int (f x z) :: st) M Q → fmEv T l G d y pc (pvTl G L) (.int z :: .int x :: st) M Q) (h : pvI2 f pc' L st M = some r) : pvSt T l G d y pc L st M r := by
  unfold pvI2 at h
  split at h
  · cases h
    exact fun Q k => row _ _ _ Q k
  · cases h
theorem pvJ2_ok {f : Int64 → Int64 → Int64} (row : ∀ (x z : Int64) (st : List Value) (Q : fmR → fmM → Prop), fmEv T l G d y pc' (pvTl G L) (.long (f x z) :: st) M Q → fmEv T l G d y pc (pvTl G L) (.long z :: .long x :: st) M Q) (h : pvJ2 f pc' L st M = some r) : pvSt T l G d y pc L st M r := by
  unfold pvJ2 at h
  split at h
  · cases h
    exact fun Q k => row _ _ _ Q k
  · cases h
theorem pvJI_ok {f : Int64 → Int32 → Int64} (row : ∀ (x : Int64) (z : Int32) (st : List Value) (Q : fmR → fmM → Prop), fmEv T l G d y pc' (pvTl G L) (.long (f x z) :: st) M Q → fmEv T l G d y pc (pvTl G L) (.int z :: .long x :: st) M Q) (h : pvJI f pc' L st M = some r) : pvSt T l G d y pc L st M r := by
  unfold pvJI at h
  split at h
  · cases h
    exact fun Q k => row _ _ _ Q k
  · cases h
theorem pvLoad_ok {i t : Nat} (rI : t = 0 → ∀ (x : Int32) (Q : fmR → fmM → Prop), (pvTl G L)[i]? = some (some (.int x)) → fmEv T l G d y pc' (pvTl G L) (.int x :: pvTs G st) M Q → fmEv T l G d y pc (pvTl G L) (pvTs G st) M Q) (rJ : t = 1 → ∀ (x : Int64) (Q : fmR → fmM → Prop), (pvTl G L)[i]? = some (some (.long x)) → fmEv T l G d y pc' (pvTl G L) (.long x :: pvTs G st) M Q → fmEv T l G d y pc (pvTl G L) (pvTs G st) M Q) (rR : t = 2 → ∀ (x : Nat) (Q : fmR → fmM → Prop), (pvTl G L)[i]? = some (some (.ref x)) → fmEv T l G d y pc' (pvTl G L) (.ref x :: pvTs G st) M Q → fmEv T l G d y pc (pvTl G L) (pvTs G st) M Q) (h : pvLoad pc' i t L st M = some r) : pvSt T l G d y pc L st M r := by
  unfold pvLoad at h
  split at h
  · rename_i x e
    split at h
    · rename_i ht
      cases h
      exact fun Q k => rI (by simpa using ht) x Q (pvTl_at e) k
    · cases h
  · rename_i x e
    split at h
    · rename_i ht
      cases h
      exact fun Q k => rJ (by simpa using ht) x Q (pvTl_at e) k
    · cases h
  · rename_i x e
    split at h
    · rename_i ht
      cases h
      exact fun Q k => rR (by simpa using ht) _ Q (pvTl_at e) k
    · cases h
  · cases h
theorem pvKill_no {i : Nat} : fmNo2 (pvKill L i) i = true := by
  cases i with
  | zero => rfl
  | succ j =>
    simp only [pvKill]
    split
    · assumption
    · simp only [fmNo2, List.getElem?_set]
      simp only [if_true]
      split
      · rename_i v h
        split at h <;> cases h
      · rfl
theorem pvKill_eq {i : Nat} (h : fmNo2 L i = true) : pvKill L i = L := by
  cases i with
  | zero => rfl
  | succ j => simp only [pvKill, h, if_true]
theorem pvKill_less {i j : Nat} {v : Value} (h : (pvTl G (pvKill L i))[j]? = some (some v)) : (pvTl G L)[j]? = some (some v) := by
  cases i with
  | zero => exact h
  | succ i =>
    simp only [pvKill] at h
    split at h
    · exact h
    · rw [pvTl_set, List.getElem?_set] at h
      split at h
      · split at h <;> cases h
      · exact h
theorem pvStor_ok {n i t : Nat} (rI : t = 0 → i < n → ∀ (x : Int32) (Q : fmR → fmM → Prop) (st : List Value) (L' : List (Option Value)), fmNo2 L' i = true → fmEv T l G d y pc' (L'.set i (some (.int x))) st M Q → fmEv T l G d y pc L' (.int x :: st) M Q) (rJ : t = 1 → i + 1 < n → ∀ (x : Int64) (Q : fmR → fmM → Prop) (st : List Value) (L' : List (Option Value)), fmNo2 L' i = true → fmEv T l G d y pc' ((L'.set i (some (.long x))).set (i + 1) none) st M Q → fmEv T l G d y pc L' (.long x :: st) M Q) (rR : t = 2 → i < n → ∀ (x : Nat) (Q : fmR → fmM → Prop) (st : List Value) (L' : List (Option Value)), fmNo2 L' i = true → fmEv T l G d y pc' (L'.set i (some (.ref x))) st M Q → fmEv T l G d y pc L' (.ref x :: st) M Q) (h : pvStor n pc' i t L st M = some r) : pvSt T l G d y pc L st M r := by
  unfold pvStor at h
  split at h
  · split at h
    · rename_i ht
      simp only [Bool.and_eq_true, Nat.beq_eq, Nat.blt_eq] at ht
      cases h
      intro Q k
      refine fm_less (fun _ _ h => pvKill_less h) (rI ht.1 ht.2 _ Q _ (pvTl G (pvKill L i)) (by rw [pvTl_no2]; exact pvKill_no) ?_)
      have k' := k
      rw [pvTl_set] at k'
      exact k'
    · cases h
  · split at h
    · rename_i ht
      simp only [Bool.and_eq_true, Nat.beq_eq, Nat.blt_eq] at ht
      cases h
      intro Q k
      refine fm_less (fun _ _ h => pvKill_less h) (rJ ht.1 ht.2 _ Q _ (pvTl G (pvKill L i)) (by rw [pvTl_no2]; exact pvKill_no) ?_)
      have k' := k
      rw [pvTl_set, pvTl_set] at k'
      exact k'
    · cases h
  · split at h
    · rename_i ht
      simp only [Bool.and_eq_true, Nat.beq_eq, Nat.blt_eq] at ht
      cases h
      intro Q k
      refine fm_less (fun _ _ h => pvKill_less h) (rR ht.1 ht.2 _ Q _ (pvTl G (pvKill L i)) (by rw [pvTl_no2]; exact pvKill_no) ?_)
      have k' := k
      rw [pvTl_set] at k'
      exact k'
    · cases h
  · cases h
theorem pvFd_ok {own : String} {idx : Nat} {f : scFd} (h : pvFd own idx = some f) : fmFl own idx f.2.1 f.2.2.1 ∧ scFdk own f := by
  have h1 := (pvT_ok own).1.1.1 f (List.mem_of_find?_eq_some h)
  have h2 := List.find?_some h
  simp only [Nat.beq_eq] at h2
  have h3 := h1.1
  rw [h2] at h3
  exact ⟨h3, h1⟩
theorem pvOb_ok {k : Nat} {f : scFd} (h : pvOb T k f = true) : k < T.1 ∧ T.2.1 k = f.2.1 + 6 ∧ f.2.2.1 < T.2.2.1 k := by
  simp only [pvOb, Bool.and_eq_true, Nat.blt_eq, Nat.beq_eq] at h
  exact ⟨h.1.1, h.1.2, h.2⟩
theorem pvGet_ok {idx : Nat} (hT : T.1 ≤ 1000) (hd : decode y.2.1 pc = .ok (.getfield idx, 3)) (h : pvGet T y.1.cls (pc + 3) idx L st M = some r) : pvSt T l G d y pc L st M r := by
  unfold pvGet at h
  split at h
  · rename_i k st'
    split at h
    · rename_i f hf
      obtain ⟨f1, -, f2, f3, f4, f5⟩ := pvFd_ok hf
      split at h
      · rename_i hc
        obtain ⟨c1, c2, c3⟩ := pvOb_ok hc
        have ek : pvTs G (.ref k :: st') = .ref (G.1 k) :: pvTs G st' := by
          show pvTr G (.ref k) :: pvTs G st' = _
          rw [pvTr_c (by omega)]
        split at h
        · rename_i ht
          cases h
          intro Q kk
          rw [ek]
          exact fm_getI f1 c1 c2 c3 (f2 ht) hd kk
        · rename_i ht
          cases h
          intro Q kk
          rw [ek]
          exact fm_getJ f1 c1 c2 c3 (f3 ht) hd kk
        · rename_i ht
          split at h
          · rename_i hb
            cases h
            intro Q kk
            rw [ek]
            refine fm_getR _ rfl f1 c1 c2 c3 (f4 ht) hd ?_
            have kk' := kk
            rw [show pvTs G (.ref (T.2.2.2 k f.2.2.1) :: st') = .ref (G.1 (T.2.2.2 k f.2.2.1)) :: pvTs G st' by
              show pvTr G (.ref _) :: pvTs G st' = _
              rw [pvTr_c (by simpa using hb)]] at kk'
            exact kk'
          · cases h
        · cases h
      · cases h
    · cases h
  · cases h
theorem pvPut_ok {idx : Nat} (hT : T.1 ≤ 1000) (hd : decode y.2.1 pc = .ok (.putfield idx, 3)) (h : pvPut T y.1.cls (pc + 3) idx L st M = some r) : pvSt T l G d y pc L st M r := by
  unfold pvPut at h
  split at h
  · rename_i v k st'
    split at h
    · rename_i f hf
      obtain ⟨f1, -, f2, f3, f4, f5⟩ := pvFd_ok hf
      split at h
      · rename_i hc
        rw [Bool.and_eq_true] at hc
        obtain ⟨c1, c2, c3⟩ := pvOb_ok hc.1
        have ek : ∀ w : Value, pvTs G (w :: .ref k :: st') = pvTr G w :: .ref (G.1 k) :: pvTs G st' := by
          intro w
          show pvTr G w :: pvTr G (.ref k) :: pvTs G st' = _
          rw [pvTr_c (by omega)]
        split at h
        · rename_i ht
          cases h
          intro Q kk
          rw [ek]
          exact fm_putI f1 c1 c2 c3 (f5 hc.2) (f2 ht) hd kk
        · rename_i ht
          cases h
          intro Q kk
          rw [ek]
          exact fm_putJ f1 c1 c2 c3 (f5 hc.2) (f3 ht) hd kk
        · cases h
      · cases h
    · cases h
  · cases h
theorem pvIx_ok {k kd : Nat} {i : Int32} (h : pvIx T k kd i = true) : k < T.1 ∧ T.2.1 k = kd ∧ vp_in i (T.2.2.1 k) := by
  simp only [pvIx, Bool.and_eq_true, Nat.blt_eq, Nat.beq_eq, decide_eq_true_eq] at h
  exact ⟨h.1.1.1, h.1.1.2, vp_in_iff.mpr ⟨h.1.2, h.2⟩⟩
theorem pvTs_ik {k : Nat} {i : Int32} {st' : List Value} (hT : T.1 ≤ 1000) (h : k < T.1) : pvTs G (.int i :: .ref k :: st') = .int i :: .ref (G.1 k) :: pvTs G st' := by
  show .int i :: pvTr G (.ref k) :: pvTs G st' = _
  rw [pvTr_c (by omega)]
theorem pvTs_vik {k : Nat} {i : Int32} {v : Value} {st' : List Value} (hT : T.1 ≤ 1000) (h : k < T.1) : pvTs G (v :: .int i :: .ref k :: st') = pvTr G v :: .int i :: .ref (G.1 k) :: pvTs G st' := by
  show pvTr G v :: .int i :: pvTr G (.ref k) :: pvTs G st' = _
  rw [pvTr_c (by omega)]
theorem pvAldI_ok (hT : T.1 ≤ 1000) (hd : decode y.2.1 pc = .ok (.iaload, 1)) (h : pvAld T 0 (pc + 1) L st M = some r) : pvSt T l G d y pc L st M r := by
  unfold pvAld at h
  split at h
  · split at h
    · rename_i hi
      obtain ⟨i1, i2, i3⟩ := pvIx_ok hi
      cases h
      intro Q k
      rw [pvTs_ik hT i1]
      exact fm_iald i1 i2 rfl i3 hd k
    · cases h
  · cases h
theorem pvAldJ_ok (hT : T.1 ≤ 1000) (hd : decode y.2.1 pc = .ok (.laload, 1)) (h : pvAld T 1 (pc + 1) L st M = some r) : pvSt T l G d y pc L st M r := by
  unfold pvAld at h
  split at h
  · split at h
    · rename_i hi
      obtain ⟨i1, i2, i3⟩ := pvIx_ok hi
      cases h
      intro Q k
      rw [pvTs_ik hT i1]
      exact fm_lald i1 i2 rfl i3 hd k
    · cases h
  · cases h
theorem pvAldB_ok (hT : T.1 ≤ 1000) (hd : decode y.2.1 pc = .ok (.baload, 1)) (h : pvAld T 2 (pc + 1) L st M = some r) : pvSt T l G d y pc L st M r := by
  unfold pvAld at h
  split at h
  · split at h
    · rename_i hi
      obtain ⟨i1, i2, i3⟩ := pvIx_ok hi
      cases h
      intro Q k
      rw [pvTs_ik hT i1]
      exact fm_bald i1 i2 rfl i3 hd k
    · cases h
  · cases h
theorem pvAstI_ok (hT : T.1 ≤ 1000) (hd : decode y.2.1 pc = .ok (.iastore, 1)) (h : pvAst T 0 (pc + 1) L st M = some r) : pvSt T l G d y pc L st M r := by
  unfold pvAst at h
  split at h
  · split at h
    · rename_i hi
      obtain ⟨i1, i2, i3⟩ := pvIx_ok hi
      split at h
      · cases h
        intro Q k
        rw [pvTs_vik hT i1]
        exact fm_iast i1 i2 rfl i3 hd k
      · omega
      · omega
      · cases h
    · cases h
  · cases h
theorem pvAstJ_ok (hT : T.1 ≤ 1000) (hd : decode y.2.1 pc = .ok (.lastore, 1)) (h : pvAst T 1 (pc + 1) L st M = some r) : pvSt T l G d y pc L st M r := by
  unfold pvAst at h
  split at h
  · split at h
    · rename_i hi
      obtain ⟨i1, i2, i3⟩ := pvIx_ok hi
      split at h
      · omega
      · cases h
        intro Q k
        rw [pvTs_vik hT i1]
        exact fm_last i1 i2 rfl i3 hd k
      · omega
      · cases h
    · cases h
  · cases h
theorem pvAstB_ok (hT : T.1 ≤ 1000) (hd : decode y.2.1 pc = .ok (.bastore, 1)) (h : pvAst T 2 (pc + 1) L st M = some r) : pvSt T l G d y pc L st M r := by
  unfold pvAst at h
  split at h
  · split at h
    · rename_i hi
      obtain ⟨i1, i2, i3⟩ := pvIx_ok hi
      split at h
      · omega
      · omega
      · cases h
        intro Q k
        rw [pvTs_vik hT i1]
        exact fm_bast i1 i2 rfl i3 hd k
      · cases h
    · cases h
  · cases h
theorem pvAald_ok (hT : T.1 ≤ 1000) (hd : decode y.2.1 pc = .ok (.aaload, 1)) (h : pvAald T (pc + 1) L st M = some r) : pvSt T l G d y pc L st M r := by
  unfold pvAald at h
  split at h
  · rename_i i k st'
    split at h
    · rename_i hi
      rw [Bool.and_eq_true, Bool.or_eq_true, Bool.or_eq_true] at hi
      obtain ⟨hi, hb⟩ := hi
      have hty : ∃ ty : FieldType, k < T.1 ∧ vp_in i (T.2.2.1 k) ∧ ((T.2.1 k = 3 ∧ ty = .object "LifeDrawer$Shelf") ∨ (T.2.1 k = 4 ∧ ty = .object "LifeDrawer$State") ∨ (T.2.1 k = 5 ∧ ty = .array .int)) := by
        rcases hi with (h | h) | h
        · obtain ⟨i1, i2, i3⟩ := pvIx_ok h
          exact ⟨_, i1, i3, Or.inl ⟨i2, rfl⟩⟩
        · obtain ⟨i1, i2, i3⟩ := pvIx_ok h
          exact ⟨_, i1, i3, Or.inr (Or.inl ⟨i2, rfl⟩)⟩
        · obtain ⟨i1, i2, i3⟩ := pvIx_ok h
          exact ⟨_, i1, i3, Or.inr (Or.inr ⟨i2, rfl⟩)⟩
      obtain ⟨ty, i1, i3, hty⟩ := hty
      cases h
      intro Q kk
      rw [pvTs_ik hT i1]
      refine fm_aald i1 rfl hty rfl i3 rfl hd ?_
      have kk' := kk
      rw [show pvTs G (.ref (T.2.2.2 k i.toNatClampNeg) :: st') = .ref (G.1 (T.2.2.2 k i.toNatClampNeg)) :: pvTs G st' by
        show pvTr G (.ref _) :: pvTs G st' = _
        rw [pvTr_c (by simpa using hb)]] at kk'
      exact kk'
    · cases h
  · cases h
theorem pvAlen_ok (hT : T.1 ≤ 1000) (hd : decode y.2.1 pc = .ok (.arraylength, 1)) (h : pvAlen T (pc + 1) L st M = some r) : pvSt T l G d y pc L st M r := by
  unfold pvAlen at h
  split at h
  · rename_i k st'
    split at h
    · rename_i hi
      simp only [Bool.and_eq_true, Bool.or_eq_true, Nat.blt_eq, Nat.beq_eq] at hi
      cases h
      intro Q kk
      have ek : pvTs G (.ref k :: st') = .ref (G.1 k) :: pvTs G st' := by
        show pvTr G (.ref k) :: pvTs G st' = _
        rw [pvTr_c (by omega)]
      rw [ek]
      rcases hi.2 with e | e
      · exact fm_alenI hi.1 e rfl rfl hd kk
      · exact fm_alenJ hi.1 e rfl rfl hd kk
    · cases h
  · cases h
theorem pvKc_ok {own : String} {idx : Nat} {v : Int32 ⊕ Int64} {i : Nat} (h : pvKc own idx = some (i, v)) : scKc own (idx, v) := by
  have h1 := (pvT_ok own).1.1.2.1 _ (List.mem_of_find?_eq_some h)
  have h2 := List.find?_some h
  simp only [Nat.beq_eq] at h2
  rw [h2] at h1
  exact h1
theorem pvLdc_ok {idx : Nat} (hd : decode y.2.1 pc = .ok (.ldc idx, 2)) (h : pvLdc y.1.cls (pc + 2) idx L st M = some r) : pvSt T l G d y pc L st M r := by
  unfold pvLdc at h
  split at h
  · rename_i i v hf
    cases h
    exact fun Q k => fm_ldc (pvKc_ok hf) hd k
  · cases h
  · split at h
    · rename_i q hf
      cases h
      obtain ⟨h5, tx, hR⟩ := (pvT_ok y.1.cls).1.2 q (List.mem_of_find?_eq_some hf) G
      have h2 := List.find?_some hf
      simp only [Nat.beq_eq] at h2
      rw [h2] at hR
      intro Q k
      refine fm_ldcT hR hd ?_
      have k' := k
      rw [show pvTs G (.ref (1000 + q.2) :: st) = .ref (G.2.2.2.1 q.2) :: pvTs G st by
        show pvTr G (.ref _) :: pvTs G st = _
        rw [pvTr_t]] at k'
      exact k'
    · cases h
theorem pvLdcw_ok {idx : Nat} (hd : decode y.2.1 pc = .ok (.ldc_w idx, 3)) (h : pvLdcw y.1.cls (pc + 3) idx L st M = some r) : pvSt T l G d y pc L st M r := by
  unfold pvLdcw at h
  split at h
  · rename_i i v hf
    cases h
    exact fun Q k => fm_ldcw (pvKc_ok hf) hd k
  · cases h
theorem pvLdc2_ok {idx : Nat} (hd : decode y.2.1 pc = .ok (.ldc2_w idx, 3)) (h : pvLdc2 y.1.cls (pc + 3) idx L st M = some r) : pvSt T l G d y pc L st M r := by
  unfold pvLdc2 at h
  split at h
  · rename_i i v hf
    cases h
    exact fun Q k => fm_ldc2 (pvKc_ok hf) hd k
  · cases h
theorem pvCopy_ok {idx : Nat} (hT : T.1 ≤ 1000) (hc : pvCp y.1.cls idx = true) (hd : decode y.2.1 pc = .ok (.invokestatic idx, 3)) (h : pvCopy T (pc + 3) L st M = some r) : pvSt T l G d y pc L st M r := by
  obtain ⟨q, hq, e⟩ := List.any_eq_true.mp hc
  simp only [Nat.beq_eq] at e
  subst e
  have hl := (pvT_ok y.1.cls).1.1.2.2.1 q hq
  unfold pvCopy at h
  split at h
  · rename_i n dp k1 sp k0 st'
    split at h
    · rename_i hb
      simp only [Bool.and_eq_true, Nat.blt_eq, Nat.beq_eq, Nat.ble_eq, decide_eq_true_eq] at hb
      obtain ⟨⟨⟨⟨⟨⟨⟨⟨⟨b1, b2⟩, b3⟩, b4⟩, b5⟩, b6⟩, b7⟩, b8⟩, b9⟩, b10⟩ := hb
      cases h
      intro Q k
      have ek : pvTs G (.int n :: .int dp :: .ref k1 :: .int sp :: .ref k0 :: st') = .int n :: .int dp :: .ref (G.1 k1) :: .int sp :: .ref (G.1 k0) :: pvTs G st' := by
        show .int n :: .int dp :: pvTr G (.ref k1) :: .int sp :: pvTr G (.ref k0) :: pvTs G st' = _
        rw [pvTr_c (by omega), pvTr_c (by omega)]
      rw [ek]
      have z0 : (0 : Int32).toInt = 0 := by decide
      exact fm_copy hl na_copy b1 b2 rfl b3 b4 rfl (by rw [sc_lt]; omega) (by rw [sc_lt]; omega) (by rw [sc_lt]; omega) b8 b9 (by rw [pvTs_cat]; exact b10) hd k
    · cases h
  · cases h
theorem pvCq_ok {own : String} {idx : Nat} {q : pvCl} (h : pvCq own idx = some q) : pvCk own q ∧ q.1 = idx := by
  have h1 := (pvT_ok own).2.1 q (List.mem_of_find?_eq_some h)
  have h2 := List.find?_some h
  simp only [Nat.beq_eq] at h2
  exact ⟨h1, h2⟩
theorem pvCal_ok {idx : Nat} {stat : Bool} {q : pvCl} (hst : l.stackTraces = false) (hT : T.1 ≤ 1000) (hq : pvCq y.1.cls idx = some q) (hd : decode y.2.1 pc = .ok (if stat then .invokestatic idx else .invokevirtual idx, 3)) (h : pvCal T d (pc + 3) L st M stat q = some r) : pvSt T l G d y pc L st M r := by
  obtain ⟨hk, hi⟩ := pvCq_ok hq
  obtain ⟨q1, kd, ci, n, y'⟩ := q
  simp only at hi
  subst hi
  unfold pvCal at h
  split at h
  · rename_i hlen
    simp only [Nat.ble_eq] at hlen
    have hta : (pvTs G (st.take n).reverse).length = n := by simp [pvTs, hlen]
    split at h
    · rename_i e0
      simp only at e0
      subst e0
      split at h
      · rename_i k st' hdr
        split at h
        · rename_i hb
          simp only [Bool.and_eq_true, Nat.blt_eq, Nat.beq_eq, Nat.ble_eq] at hb
          cases h
          refine ⟨hk.2, fun Q d' hd' hg => ?_⟩
          have es : pvTs G st = (pvTs G (st.take n).reverse).reverse ++ .ref (G.1 k) :: pvTs G st' := by
            have e1 : st = st.take n ++ .ref k :: st' := by rw [← hdr, List.take_append_drop]
            have e2 : pvTs G st = pvTs G (st.take n) ++ pvTr G (.ref k) :: pvTs G st' := by
              conv => lhs; rw [e1]
              simp [pvTs]
            rw [e2, pvTr_c (by omega)]
            simp [pvTs]
          refine fm_invV (As := pvTs G (st.take n).reverse) hk.1 hb.1.1 hb.1.2 hta rfl es (by rw [pvTs_cat]; exact hb.2) hd' hd ?_
          have hg' := hg
          rw [show pvTs G (.ref k :: (st.take n).reverse) = .ref (G.1 k) :: pvTs G (st.take n).reverse by
            show pvTr G (.ref k) :: pvTs G _ = _
            rw [pvTr_c (by omega)]] at hg'
          exact hg'
        · cases h
      · cases h
    · rename_i e0
      simp only at e0
      subst e0
      split at h
      · rename_i hb
        simp only [Nat.ble_eq] at hb
        cases h
        refine ⟨hk.2, fun Q d' hd' hg => ?_⟩
        have es : pvTs G st = (pvTs G (st.take n).reverse).reverse ++ pvTs G (st.drop n) := by
          simp only [pvTs, List.map_reverse, List.reverse_reverse, ← List.map_append, List.take_append_drop]
        exact fm_invS (args' := pvTs G (st.take n).reverse) hk.1 hta es (by rw [pvTs_cat]; exact hb) hd' hd hg
      · cases h
    · rename_i e0
      simp only at e0
      subst e0
      obtain ⟨c1, c2, c3⟩ := hk
      split at h
      · rename_i rr st'
        split at h
        · rename_i hb
          simp only [Bool.and_eq_true, Nat.blt_eq, Nat.ble_eq] at hb
          obtain ⟨⟨⟨b1, b2⟩, b3⟩, b4⟩ := hb
          cases h
          intro Q k
          rw [show pvTs G (.ref rr :: st') = .ref (G.2.2.2.1 (rr - 1000)) :: pvTs G st' by
            show pvTr G (.ref rr) :: pvTs G _ = _
            rw [pvTr_t' b1]]
          refine fm_invT0 (d' := 1) b2 c1 nm_J0_length_8abf5 nz_J0_length_8abf5 (by rw [pvTs_cat]; exact b4) (by omega) hd ?_
          exact c_strlen hst _ b2 (fm_then1 k)
        · cases h
      · cases h
    · rename_i e0
      simp only at e0
      subst e0
      obtain ⟨c1, c2, c3⟩ := hk
      split at h
      · rename_i x rr st'
        split at h
        · rename_i hb
          simp only [Bool.and_eq_true, Nat.blt_eq, Nat.ble_eq, decide_eq_true_eq] at hb
          obtain ⟨⟨⟨⟨⟨b1, b2⟩, b3⟩, b4⟩, b5⟩, b6⟩ := hb
          cases h
          intro Q k
          have hx : x = nI x.toNatClampNeg := by
            apply Int32.toInt_inj.mp
            have hl : fmLen.getD (rr - 1000) 0 < 64 := fmLen_lt _ b2
            have e1 : x.toNatClampNeg = x.toInt.toNat := rfl
            rw [nI_toInt (by rw [e1]; omega)]
            rw [e1]
            omega
          rw [show pvTs G (.int x :: .ref rr :: st') = .int x :: .ref (G.2.2.2.1 (rr - 1000)) :: pvTs G st' by
            show .int x :: pvTr G (.ref rr) :: pvTs G _ = _
            rw [pvTr_t' b1]]
          refine fm_invT1 (d' := 3) b2 c1 nm_J0_charAt_5068e nz_J0_charAt_5068e (by rw [pvTs_cat]; exact b4) (by omega) hd ?_
          rw [hx]
          refine c_charAt hst _ _ b2 ?_ ?_
          · show x.toInt.toNat < _
            omega
          · refine fm_then1 ?_
            have k' := k
            exact k'
        · cases h
      · cases h
    · cases h
  · cases h
theorem pvStat_ok {idx : Nat} (hst : l.stackTraces = false) (hT : T.1 ≤ 1000) (hd : decode y.2.1 pc = .ok (.invokestatic idx, 3)) (h : pvStat T d y.1.cls (pc + 3) idx L st M = some r) : pvSt T l G d y pc L st M r := by
  unfold pvStat at h
  split at h
  · rename_i q hq
    have h1 := (pvT_ok y.1.cls).1.1.2.2.2.1 q (List.mem_of_find?_eq_some hq)
    have h2 := List.find?_some hq
    simp only [Nat.beq_eq] at h2
    split at h
    · split at h
      · rename_i hb
        simp only [Bool.and_eq_true, Nat.ble_eq] at hb
        cases h
        intro Q k
        exact h1 _ _ _ _ _ _ _ _ _ _ _ _ hst rfl hb.1 (by have h9 := hb.2; rw [← pvTs_cat (G := G)] at h9; exact h9) (by rw [h2]; exact hd) k
      · cases h
    · cases h
  · split at h
    · rename_i hc
      exact pvCopy_ok hT hc hd h
    · split at h
      · rename_i q hq
        have h1 := (pvT_ok y.1.cls).1.1.2.2.2.2 q (List.mem_of_find?_eq_some hq)
        have h2 := List.find?_some hq
        simp only [Nat.beq_eq] at h2
        split at h
        · split at h
          · rename_i hb
            simp only [Bool.and_eq_true, Nat.ble_eq] at hb
            cases h
            intro Q k
            exact h1 _ _ _ _ _ _ _ _ _ _ _ _ hst rfl hb.1 (by have h9 := hb.2; rw [← pvTs_cat (G := G)] at h9; exact h9) (by rw [h2]; exact hd) k
          · cases h
        · cases h
      · split at h
        · rename_i q hq
          exact pvCal_ok (stat := true) hst hT hq hd h
        · cases h
theorem pvThr_ok {idx : Nat} (hd : decode y.2.1 pc = .ok (.new idx, 3)) (h : pvThr y pc idx st M = some r) : pvSt T l G d y pc L st M r := by
  obtain ⟨⟨yc, yn, yd⟩, c9, ml, rt⟩ := y
  unfold pvThr at h
  split at h
  · split at h
    · rename_i hb
      simp only [Bool.and_eq_true, Nat.beq_eq, decide_eq_true_eq] at hb
      obtain ⟨⟨b1, b2⟩, b3⟩ := hb
      have e := (pvT_ok yc).2.2 b1
      subst e
      split at h
      · rename_i hc
        simp only [Bool.and_eq_true, Nat.beq_eq, decide_eq_true_eq] at hc
        obtain ⟨⟨c1, c2⟩, c3⟩ := hc
        subst c1
        cases h
        exact fun Q k => fm_thrI hd b2 c2 c3 b3 k
      · split at h
        · rename_i hc
          simp only [Bool.and_eq_true, Nat.beq_eq, decide_eq_true_eq] at hc
          obtain ⟨⟨c1, c2⟩, c3⟩ := hc
          subst c1
          cases h
          exact fun Q k => fm_thrN hd b2 c2 c3 b3 k
        · cases h
    · cases h
  · cases h
theorem pvBr_ok {b : Bool} {off : Int} {st0 : List Value} (row : ∀ (tgt : Nat) (Q : fmR → fmM → Prop), (pc : Int) + off = (tgt : Int) → (b = true → fmEv T l G d y tgt (pvTl G L) (pvTs G st) M Q) → (b = false → fmEv T l G d y (pc + 3) (pvTl G L) (pvTs G st) M Q) → fmEv T l G d y pc (pvTl G L) (pvTs G st0) M Q) (h : pvBr b pc off L st M = some r) : pvSt T l G d y pc L st0 M r := by
  unfold pvBr at h
  split at h
  · rename_i ho
    simp only [decide_eq_true_eq] at ho
    split at h
    · rename_i hb
      cases h
      exact fun Q k => row _ Q (by omega) (fun _ => k) (fun e => by rw [hb] at e; cases e)
    · rename_i hb
      cases h
      exact fun Q k => row ((pc : Int) + off).toNat Q (by omega) (fun e => absurd e hb) (fun _ => k)
  · cases h
theorem scq_bool {v : Int32} (h : v = 0 ∨ v = 1) : narrow .boolean (.int v) = .int v := by
  rcases h with h | h <;> subst h <;> rfl
end PvSound
end
-- P 10e3
section
-- THE PURE MACHINE: every step is sound; runs
section PvAll
variable {T : fmT} {l : Launch} {G : fmG} {d : Nat} {y : fmY} {pc : Nat} {L : List (Option Value)} {st : List Value} {M : fmM} {r : pvO}
theorem pvStp_ok {i : Instr} {len : Nat} (hst : l.stackTraces = false) (hT : T.1 ≤ 1000) (hd0 : decode y.2.1 pc = .ok (i, len)) (hlen : (pvSw i || Nat.beq len (scLen i)) = true) (h : pvStp T d y pc i L st M = some r) : pvSt T l G d y pc L st M r := by
  rw [Bool.or_eq_true, Nat.beq_eq] at hlen
  cases i with
  | tableswitch a b c e =>
    simp only [pvStp] at h
    split at h
    · split at h
      · rename_i hb
        simp only [Bool.and_eq_true, decide_eq_true_eq] at hb
        cases h
        exact fun Q k => fm_table _ hb.1 (by omega) hd0 k
      · cases h
    · cases h
  | lookupswitch a b =>
    simp only [pvStp] at h
    split at h
    · split at h
      · rename_i hb
        rw [Bool.and_eq_true, decide_eq_true_eq] at hb
        cases h
        exact fun Q k => fm_lookup _ hb.1 (by omega) hd0 k
      · cases h
    · cases h
  | iconst n => cases hlen with
    | inl h9 => cases h9
    | inr h9 => subst h9; cases h; exact fun Q k => fm_iconst rfl hd0 k
  | bipush n => cases hlen with
    | inl h9 => cases h9
    | inr h9 => subst h9; cases h; exact fun Q k => fm_bipush rfl hd0 k
  | sipush n => cases hlen with
    | inl h9 => cases h9
    | inr h9 => subst h9; cases h; exact fun Q k => fm_sipush rfl hd0 k
  | lconst n => cases hlen with
    | inl h9 => cases h9
    | inr h9 => subst h9; cases h; exact fun Q k => fm_lconst rfl hd0 k
  | iload_n n => cases hlen with
    | inl h9 => cases h9
    | inr h9 => subst h9; exact pvLoad_ok (fun _ x Q hx k => fm_iload_n hx hd0 k) (fun e => by cases e) (fun e => by cases e) h
  | iload n => cases hlen with
    | inl h9 => cases h9
    | inr h9 => subst h9; exact pvLoad_ok (fun _ x Q hx k => fm_iload hx hd0 k) (fun e => by cases e) (fun e => by cases e) h
  | lload_n n => cases hlen with
    | inl h9 => cases h9
    | inr h9 => subst h9; exact pvLoad_ok (fun e => by cases e) (fun _ x Q hx k => fm_lload_n hx hd0 k) (fun e => by cases e) h
  | lload n => cases hlen with
    | inl h9 => cases h9
    | inr h9 => subst h9; exact pvLoad_ok (fun e => by cases e) (fun _ x Q hx k => fm_lload hx hd0 k) (fun e => by cases e) h
  | aload_n n => cases hlen with
    | inl h9 => cases h9
    | inr h9 => subst h9; exact pvLoad_ok (fun e => by cases e) (fun e => by cases e) (fun _ x Q hx k => fm_aload_n hx hd0 k) h
  | aload n => cases hlen with
    | inl h9 => cases h9
    | inr h9 => subst h9; exact pvLoad_ok (fun e => by cases e) (fun e => by cases e) (fun _ x Q hx k => fm_aload hx hd0 k) h
  | istore_n n => cases hlen with
    | inl h9 => cases h9
    | inr h9 => subst h9; exact pvStor_ok (fun _ hn x Q st L' h2 k => fm_istore_n hn h2 hd0 k) (fun e => by cases e) (fun e => by cases e) h
  | istore n => cases hlen with
    | inl h9 => cases h9
    | inr h9 => subst h9; exact pvStor_ok (fun _ hn x Q st L' h2 k => fm_istore hn h2 hd0 k) (fun e => by cases e) (fun e => by cases e) h
  | lstore_n n => cases hlen with
    | inl h9 => cases h9
    | inr h9 => subst h9; exact pvStor_ok (fun e => by cases e) (fun _ hn x Q st L' h2 k => fm_lstore_n hn h2 hd0 k) (fun e => by cases e) h
  | lstore n => cases hlen with
    | inl h9 => cases h9
    | inr h9 => subst h9; exact pvStor_ok (fun e => by cases e) (fun _ hn x Q st L' h2 k => fm_lstore hn h2 hd0 k) (fun e => by cases e) h
  | astore_n n => cases hlen with
    | inl h9 => cases h9
    | inr h9 => subst h9; exact pvStor_ok (fun e => by cases e) (fun e => by cases e) (fun _ hn x Q st L' h2 k => fm_astore_n hn h2 hd0 k) h
  | astore n => cases hlen with
    | inl h9 => cases h9
    | inr h9 => subst h9; exact pvStor_ok (fun e => by cases e) (fun e => by cases e) (fun _ hn x Q st L' h2 k => fm_astore hn h2 hd0 k) h
  | iinc n v => cases hlen with
    | inl h9 => cases h9
    | inr h9 =>
      subst h9
      simp only [pvStp] at h
      split at h
      · rename_i x e
        split at h
        · rename_i hn
          simp only [Nat.blt_eq] at hn
          cases h
          intro Q k
          have k' := k
          rw [pvTl_set] at k'
          have hx : (pvTl G (pvKill L n))[n]? = some (some (.int x)) := by
            cases n with
            | zero => exact pvTl_at e
            | succ j =>
              simp only [pvKill]
              split
              · exact pvTl_at e
              · rw [pvTl_set, List.getElem?_set, if_neg (by omega)]
                exact pvTl_at e
          exact fm_less (fun _ _ h => pvKill_less h) (fm_iinc hx rfl hn (by rw [pvTl_no2]; exact pvKill_no) hd0 k')
        · cases h
      · cases h
  | iadd => cases hlen with
    | inl h9 => cases h9
    | inr h9 => subst h9; exact pvI2_ok (fun x z st Q k => fm_iadd hd0 k) h
  | isub => cases hlen with
    | inl h9 => cases h9
    | inr h9 => subst h9; exact pvI2_ok (fun x z st Q k => fm_isub hd0 k) h
  | imul => cases hlen with
    | inl h9 => cases h9
    | inr h9 => subst h9; exact pvI2_ok (fun x z st Q k => fm_imul hd0 k) h
  | iand => cases hlen with
    | inl h9 => cases h9
    | inr h9 => subst h9; exact pvI2_ok (fun x z st Q k => fm_iand hd0 k) h
  | ior => cases hlen with
    | inl h9 => cases h9
    | inr h9 => subst h9; exact pvI2_ok (fun x z st Q k => fm_ior hd0 k) h
  | ixor => cases hlen with
    | inl h9 => cases h9
    | inr h9 => subst h9; exact pvI2_ok (fun x z st Q k => fm_ixor hd0 k) h
  | ishl => cases hlen with
    | inl h9 => cases h9
    | inr h9 => subst h9; exact pvI2_ok (fun x z st Q k => fm_ishl hd0 k) h
  | ishr => cases hlen with
    | inl h9 => cases h9
    | inr h9 => subst h9; exact pvI2_ok (fun x z st Q k => fm_ishr hd0 k) h
  | iushr => cases hlen with
    | inl h9 => cases h9
    | inr h9 => subst h9; exact pvI2_ok (fun x z st Q k => fm_iushr hd0 k) h
  | ineg => cases hlen with
    | inl h9 => cases h9
    | inr h9 => subst h9; exact pvI1_ok (fun x st Q k => fm_ineg hd0 k) h
  | i2b => cases hlen with
    | inl h9 => cases h9
    | inr h9 => subst h9; exact pvI1_ok (fun x st Q k => fm_i2b hd0 k) h
  | ladd => cases hlen with
    | inl h9 => cases h9
    | inr h9 => subst h9; exact pvJ2_ok (fun x z st Q k => fm_ladd hd0 k) h
  | lsub => cases hlen with
    | inl h9 => cases h9
    | inr h9 => subst h9; exact pvJ2_ok (fun x z st Q k => fm_lsub hd0 k) h
  | lmul => cases hlen with
    | inl h9 => cases h9
    | inr h9 => subst h9; exact pvJ2_ok (fun x z st Q k => fm_lmul hd0 k) h
  | land => cases hlen with
    | inl h9 => cases h9
    | inr h9 => subst h9; exact pvJ2_ok (fun x z st Q k => fm_land hd0 k) h
  | lor => cases hlen with
    | inl h9 => cases h9
    | inr h9 => subst h9; exact pvJ2_ok (fun x z st Q k => fm_lor hd0 k) h
  | lxor => cases hlen with
    | inl h9 => cases h9
    | inr h9 => subst h9; exact pvJ2_ok (fun x z st Q k => fm_lxor hd0 k) h
  | lshl => cases hlen with
    | inl h9 => cases h9
    | inr h9 => subst h9; exact pvJI_ok (fun x z st Q k => fm_lshl hd0 k) h
  | lshr => cases hlen with
    | inl h9 => cases h9
    | inr h9 => subst h9; exact pvJI_ok (fun x z st Q k => fm_lshr hd0 k) h
  | idiv => cases hlen with
    | inl h9 => cases h9
    | inr h9 =>
      subst h9
      simp only [pvStp] at h
      split at h
      · split at h
        · cases h
        · rename_i hz
          cases h
          exact fun Q k => fm_idiv hz hd0 k
      · cases h
  | irem => cases hlen with
    | inl h9 => cases h9
    | inr h9 =>
      subst h9
      simp only [pvStp] at h
      split at h
      · split at h
        · cases h
        · rename_i hz
          cases h
          exact fun Q k => fm_irem hz hd0 k
      · cases h
  | ldiv => cases hlen with
    | inl h9 => cases h9
    | inr h9 =>
      subst h9
      simp only [pvStp] at h
      split at h
      · split at h
        · cases h
        · rename_i hz
          cases h
          exact fun Q k => fm_ldiv hz hd0 k
      · cases h
  | lrem => cases hlen with
    | inl h9 => cases h9
    | inr h9 =>
      subst h9
      simp only [pvStp] at h
      split at h
      · split at h
        · cases h
        · rename_i hz
          cases h
          exact fun Q k => fm_lrem hz hd0 k
      · cases h
  | i2l => cases hlen with
    | inl h9 => cases h9
    | inr h9 =>
      subst h9
      simp only [pvStp] at h
      split at h
      · cases h
        exact fun Q k => fm_i2l hd0 k
      · cases h
  | l2i => cases hlen with
    | inl h9 => cases h9
    | inr h9 =>
      subst h9
      simp only [pvStp] at h
      split at h
      · cases h
        exact fun Q k => fm_l2i hd0 k
      · cases h
  | lcmp => cases hlen with
    | inl h9 => cases h9
    | inr h9 =>
      subst h9
      simp only [pvStp] at h
      split at h
      · cases h
        exact fun Q k => fm_lcmp hd0 k
      · cases h
  | dup => cases hlen with
    | inl h9 => cases h9
    | inr h9 =>
      subst h9
      simp only [pvStp] at h
      split at h
      · split at h
        · rename_i hc
          cases h
          exact fun Q k => fm_dup (by rw [pvTr_cat]; exact hc) hd0 k
        · cases h
      · cases h
  | dup2 => cases hlen with
    | inl h9 => cases h9
    | inr h9 =>
      subst h9
      simp only [pvStp] at h
      split at h
      · cases h
        exact fun Q k => fm_dup2L rfl hd0 k
      · split at h
        · rename_i hc
          cases h
          exact fun Q k => fm_dup2 (by rw [pvTr_cat]; exact hc.1) (by rw [pvTr_cat]; exact hc.2) hd0 k
        · cases h
      · cases h
  | dup_x1 => cases hlen with
    | inl h9 => cases h9
    | inr h9 =>
      subst h9
      simp only [pvStp] at h
      split at h
      · split at h
        · rename_i hc
          cases h
          exact fun Q k => fm_dup_x1 (by rw [pvTr_cat]; exact hc.1) (by rw [pvTr_cat]; exact hc.2) hd0 k
        · cases h
      · cases h
  | pop => cases hlen with
    | inl h9 => cases h9
    | inr h9 =>
      subst h9
      simp only [pvStp] at h
      split at h
      · split at h
        · rename_i hc
          cases h
          exact fun Q k => fm_pop (by rw [pvTr_cat]; exact hc) hd0 k
        · cases h
      · cases h
  | goto off => cases hlen with
    | inl h9 => cases h9
    | inr h9 =>
      subst h9
      simp only [pvStp] at h
      split at h
      · rename_i hc
        simp only [decide_eq_true_eq] at hc
        cases h
        exact fun Q k => fm_goto _ (by omega) hd0 k
      · cases h
  | ifCond c off => cases hlen with
    | inl h9 => cases h9
    | inr h9 =>
      subst h9
      simp only [pvStp] at h
      split at h
      · exact pvBr_ok (fun tgt Q ht k1 k2 => fm_ifc c ht hd0 (fun hr => k1 (scRel_t hr)) (fun hr => k2 (scRel_f hr))) h
      · cases h
  | if_icmp c off => cases hlen with
    | inl h9 => cases h9
    | inr h9 =>
      subst h9
      simp only [pvStp] at h
      split at h
      · exact pvBr_ok (fun tgt Q ht k1 k2 => fm_icmp c ht hd0 (fun hr => k1 (scRel_t hr)) (fun hr => k2 (scRel_f hr))) h
      · cases h
  | getfield idx => cases hlen with
    | inl h9 => cases h9
    | inr h9 => subst h9; exact pvGet_ok hT hd0 h
  | putfield idx => cases hlen with
    | inl h9 => cases h9
    | inr h9 => subst h9; exact pvPut_ok hT hd0 h
  | iaload => cases hlen with
    | inl h9 => cases h9
    | inr h9 => subst h9; exact pvAldI_ok hT hd0 h
  | laload => cases hlen with
    | inl h9 => cases h9
    | inr h9 => subst h9; exact pvAldJ_ok hT hd0 h
  | baload => cases hlen with
    | inl h9 => cases h9
    | inr h9 => subst h9; exact pvAldB_ok hT hd0 h
  | iastore => cases hlen with
    | inl h9 => cases h9
    | inr h9 => subst h9; exact pvAstI_ok hT hd0 h
  | lastore => cases hlen with
    | inl h9 => cases h9
    | inr h9 => subst h9; exact pvAstJ_ok hT hd0 h
  | bastore => cases hlen with
    | inl h9 => cases h9
    | inr h9 => subst h9; exact pvAstB_ok hT hd0 h
  | aaload => cases hlen with
    | inl h9 => cases h9
    | inr h9 => subst h9; exact pvAald_ok hT hd0 h
  | arraylength => cases hlen with
    | inl h9 => cases h9
    | inr h9 => subst h9; exact pvAlen_ok hT hd0 h
  | ldc idx => cases hlen with
    | inl h9 => cases h9
    | inr h9 => subst h9; exact pvLdc_ok hd0 h
  | ldc_w idx => cases hlen with
    | inl h9 => cases h9
    | inr h9 => subst h9; exact pvLdcw_ok hd0 h
  | ldc2_w idx => cases hlen with
    | inl h9 => cases h9
    | inr h9 => subst h9; exact pvLdc2_ok hd0 h
  | invokevirtual idx => cases hlen with
    | inl h9 => cases h9
    | inr h9 =>
      subst h9
      simp only [pvStp, pvVirt] at h
      split at h
      · rename_i q hq
        exact pvCal_ok (stat := false) hst hT hq hd0 h
      · cases h
  | invokestatic idx => cases hlen with
    | inl h9 => cases h9
    | inr h9 => subst h9; exact pvStat_ok hst hT hd0 h
  | new idx => cases hlen with
    | inl h9 => cases h9
    | inr h9 => subst h9; exact pvThr_ok hd0 h
  | ireturn => cases hlen with
    | inl h9 => cases h9
    | inr h9 =>
      subst h9
      simp only [pvStp] at h
      split at h
      · rename_i v
        unfold pvRetI at h
        split at h
        · rename_i hr
          cases h
          exact fun Q k => fm_ireturn hr hd0 k
        · rename_i hr
          split at h
          · rename_i hb
            simp only [Bool.or_eq_true, decide_eq_true_eq] at hb
            cases h
            exact fun Q k => fm_zreturn hr (scq_bool hb) hd0 k
          · cases h
        · cases h
      · cases h
  | lreturn => cases hlen with
    | inl h9 => cases h9
    | inr h9 =>
      subst h9
      simp only [pvStp] at h
      split at h
      · split at h
        · rename_i hr
          cases h
          exact fun Q k => fm_lreturn hr hd0 k
        · cases h
      · cases h
  | return_ => cases hlen with
    | inl h9 => cases h9
    | inr h9 =>
      subst h9
      simp only [pvStp] at h
      split at h
      · split at h
        · rename_i hr
          cases h
          exact fun Q k => fm_return hr hd0 k
        · cases h
      · cases h
  | _ => cases h
end PvAll
theorem pvX_ok {T : fmT} {l : Launch} {G : fmG} (hst : l.stackTraces = false) (hT : T.1 ≤ 1000) : ∀ (n d : Nat) (y : fmY) (pc : Nat) (L : List (Option Value)) (st : List Value) (M : fmM) (r : fmR × fmM), pvX T n d y pc L st M = some r → fmEv T l G d y pc (pvTl G L) (pvTs G st) M (fun o M' => o = pvTo G r.1 ∧ M' = r.2)
  | 0, d, y, pc, L, st, M, r, h => by cases h
  | n + 1, d, y, pc, L, st, M, r, h => by
    simp only [pvX] at h
    split at h
    · rename_i i len hd
      split at h
      · rename_i hlen
        split at h
        · rename_i q hq
          exact pvStp_ok (G := G) hst hT hd hlen hq _ (pvX_ok hst hT n d y _ _ _ _ r h)
        · rename_i q hq
          cases h
          exact pvStp_ok (G := G) hst hT hd hlen hq _ ⟨rfl, rfl⟩
        · rename_i q hq
          obtain ⟨hpl, hs⟩ := pvStp_ok (l := l) (G := G) hst hT hd hlen hq
          split at h
          · cases h
          · rename_i d'
            split at h
            · rename_i hle
              simp only [Nat.ble_eq] at hle
              split at h
              · rename_i v M1 hc
                have ih := pvX_ok (G := G) hst hT n d' q.1 0 _ _ _ _ hc
                refine hs _ d' (Nat.le_refl _) (fmGood_of hst hpl (by rw [pvTs_sl]; exact hle) ?_)
                rw [pvEnt_tr]
                refine fmEv.imp ih (fun o M' hh => ?_)
                obtain ⟨h1, h2⟩ := hh
                subst h1
                subst h2
                have ih2 := pvX_ok (G := G) hst hT n (d' + 1) y _ _ _ _ r h
                have e : pvTs G (v.toList ++ q.2.2.2) = (v.map (pvTr G)).toList ++ pvTs G q.2.2.2 := by
                  cases v <;> simp [pvTs]
                rw [e] at ih2
                exact ih2
              · rename_i E M1 hc
                cases h
                have ih := pvX_ok (G := G) hst hT n d' q.1 0 _ _ _ _ hc
                refine hs _ d' (Nat.le_refl _) (fmGood_of hst hpl (by rw [pvTs_sl]; exact hle) ?_)
                rw [pvEnt_tr]
                refine fmEv.imp ih (fun o M' hh => ?_)
                obtain ⟨h1, h2⟩ := hh
                subst h1
                subst h2
                exact ⟨rfl, rfl⟩
              · cases h
            · cases h
        · cases h
      · cases h
    · cases h
theorem pvCal_mono {T : fmT} {d d' pc : Nat} {L : List (Option Value)} {st : List Value} {M : fmM} {stat : Bool} {q : pvCl} {r : pvO} (hdd : d ≤ d') (h : pvCal T d pc L st M stat q = some r) : pvCal T d' pc L st M stat q = some r := by
  obtain ⟨q1, kd, ci, n, y'⟩ := q
  unfold pvCal at h ⊢
  split at h
  · rename_i hl
    rw [if_pos hl]
    split at h
    · rename_i e0
      simp only at e0 h ⊢
      subst e0
      exact h
    · rename_i e0
      simp only at e0 h ⊢
      subst e0
      exact h
    · rename_i e0
      simp only at e0 h ⊢
      subst e0
      split at h
      · split at h
        · rename_i hb
          simp only [Bool.and_eq_true, Nat.ble_eq, Nat.blt_eq] at hb
          try simp only
          rw [if_pos (by simp only [Bool.and_eq_true, Nat.ble_eq, Nat.blt_eq]; omega)]
          exact h
        · cases h
      · cases h
    · rename_i e0
      simp only at e0 h ⊢
      subst e0
      split at h
      · split at h
        · rename_i hb
          simp only [Bool.and_eq_true, Nat.ble_eq, Nat.blt_eq] at hb
          obtain ⟨⟨⟨⟨⟨b1, b2⟩, b3⟩, b4⟩, b5⟩, b6⟩ := hb
          try simp only
          rw [if_pos (by simp only [Bool.and_eq_true, Nat.ble_eq, Nat.blt_eq]; exact ⟨⟨⟨⟨⟨b1, b2⟩, by omega⟩, b4⟩, b5⟩, b6⟩)]
          exact h
        · cases h
      · cases h
    · cases h
  · cases h
theorem pvStp_mono {T : fmT} {d d' : Nat} {y : fmY} {pc : Nat} {i : Instr} {L : List (Option Value)} {st : List Value} {M : fmM} {r : pvO} (hdd : d ≤ d') (h : pvStp T d y pc i L st M = some r) : pvStp T d' y pc i L st M = some r := by
  cases i with
  | invokevirtual idx =>
    simp only [pvStp, pvVirt] at h ⊢
    split at h
    · exact pvCal_mono hdd h
    · cases h
  | invokestatic idx =>
    simp only [pvStp, pvStat] at h ⊢
    split at h
    · split at h
      · split at h
        · rename_i hb
          simp only [Bool.and_eq_true, Nat.ble_eq] at hb
          try simp only
          rw [if_pos (by simp only [Bool.and_eq_true, Nat.ble_eq]; omega)]
          exact h
        · cases h
      · cases h
    · try simp only
      split at h
      · rename_i hc
        rw [if_pos hc]
        exact h
      · rename_i hc
        rw [if_neg hc]
        split at h
        · split at h
          · split at h
            · rename_i hb
              simp only [Bool.and_eq_true, Nat.ble_eq] at hb
              try simp only
              rw [if_pos (by simp only [Bool.and_eq_true, Nat.ble_eq]; omega)]
              exact h
            · cases h
          · cases h
        · split at h
          · try simp only
            exact pvCal_mono hdd h
          · cases h
  | _ => exact h
/-- more time, more room: the same end -/
theorem pvX_mono {T : fmT} : ∀ (n d : Nat) (y : fmY) (pc : Nat) (L : List (Option Value)) (st : List Value) (M : fmM) (r : fmR × fmM), pvX T n d y pc L st M = some r → ∀ n' d' : Nat, n ≤ n' → d ≤ d' → pvX T n' d' y pc L st M = some r
  | 0, d, y, pc, L, st, M, r, h, _, _, _, _ => by cases h
  | n + 1, d, y, pc, L, st, M, r, h, 0, d', hn, _ => by omega
  | n + 1, d, y, pc, L, st, M, r, h, n' + 1, d', hn, hdd => by
    simp only [pvX] at h ⊢
    split at h
    · rename_i i len hd
      split at h
      · rename_i hlen
        rw [if_pos hlen]
        split at h
        · rename_i q hq
          rw [pvStp_mono hdd hq]
          exact pvX_mono n d y _ _ _ _ r h n' d' (by omega) hdd
        · rename_i q hq
          rw [pvStp_mono hdd hq]
          exact h
        · rename_i q hq
          rw [pvStp_mono hdd hq]
          try simp only
          split at h
          · cases h
          · rename_i e
            cases d' with
            | zero => omega
            | succ e' =>
              try simp only
              split at h
              · rename_i hle
                rw [if_pos hle]
                split at h
                · rename_i v M1 hc
                  rw [pvX_mono n e q.1 0 _ _ _ _ hc n' e' (by omega) (by omega)]
                  exact pvX_mono n (e + 1) y _ _ _ _ r h n' (e' + 1) (by omega) hdd
                · rename_i E M1 hc
                  rw [pvX_mono n e q.1 0 _ _ _ _ hc n' e' (by omega) (by omega)]
                  exact h
                · cases h
              · cases h
        · cases h
      · cases h
    · cases h
/-- from here on the method comes to an end with Q -/
def pvEv (T : fmT) (d : Nat) (y : fmY) (pc : Nat) (L : List (Option Value)) (st : List Value) (M : fmM) (Q : fmR → fmM → Prop) : Prop := ∃ (n : Nat) (r : fmR × fmM), pvX T n d y pc L st M = some r ∧ Q r.1 r.2
/-- a call of y with these arguments comes to an end with Q -/
def pvGood (T : fmT) (d : Nat) (y : fmY) (args : List Value) (M : fmM) (Q : fmR → fmM → Prop) : Prop := (lg_sl args).length ≤ y.2.2.1 ∧ pvEv T d y 0 (pvEnt y args) [] M Q
def pvThen (T : fmT) (d : Nat) (y : fmY) (pc : Nat) (L : List (Option Value)) (st : List Value) (Q : fmR → fmM → Prop) : fmR → fmM → Prop := fun o M' => match o with
  | .inl v => pvEv T d y pc L (v.toList ++ st) M' Q
  | .inr E => Q (.inr E) M'
section PvEv
variable {T : fmT} {d : Nat} {y : fmY} {pc : Nat} {L : List (Option Value)} {st : List Value} {M : fmM} {Q Q' : fmR → fmM → Prop}
theorem pvEv.imp (h : pvEv T d y pc L st M Q) (hq : ∀ o M', Q o M' → Q' o M') : pvEv T d y pc L st M Q' := by
  obtain ⟨n, r, h1, h2⟩ := h
  exact ⟨n, r, h1, hq _ _ h2⟩
theorem pvEv.up {d' : Nat} (h : pvEv T d y pc L st M Q) (hd : d ≤ d') : pvEv T d' y pc L st M Q := by
  obtain ⟨n, r, h1, h2⟩ := h
  exact ⟨n, r, pvX_mono _ _ _ _ _ _ _ _ h1 n d' (Nat.le_refl _) hd, h2⟩
theorem pvEv.and {d' : Nat} (h : pvEv T d y pc L st M Q) (h' : pvEv T d' y pc L st M Q') : pvEv T d y pc L st M (fun o M' => Q o M' ∧ Q' o M') := by
  obtain ⟨n, r, h1, h2⟩ := h
  obtain ⟨n', r', h1', h2'⟩ := h'
  have e1 := pvX_mono _ _ _ _ _ _ _ _ h1 (n + n') (d + d') (by omega) (by omega)
  have e2 := pvX_mono _ _ _ _ _ _ _ _ h1' (n + n') (d + d') (by omega) (by omega)
  rw [e1] at e2
  cases e2
  exact ⟨n, r, h1, h2, h2'⟩
theorem pvGood.imp {args : List Value} (h : pvGood T d y args M Q) (hq : ∀ o M', Q o M' → Q' o M') : pvGood T d y args M Q' := ⟨h.1, h.2.imp hq⟩
theorem pvGood.up {d' : Nat} {args : List Value} (h : pvGood T d y args M Q) (hd : d ≤ d') : pvGood T d' y args M Q := ⟨h.1, h.2.up hd⟩
theorem pvGood.and {d' : Nat} {args : List Value} (h : pvGood T d y args M Q) (h' : pvGood T d' y args M Q') : pvGood T d y args M (fun o M' => Q o M' ∧ Q' o M') := ⟨h.1, h.2.and h'.2⟩
theorem pvGood.fm {l : Launch} {G : fmG} {args : List Value} (hst : l.stackTraces = false) (hT : T.1 ≤ 1000) (hpl : plainName y.1.cls = true) (h : pvGood T d y args M Q) : fmGood T l G d y (pvTs G args) M (fun o M' => ∃ o', o = pvTo G o' ∧ Q o' M') := by
  obtain ⟨h0, n, r, h1, h2⟩ := h
  refine fmGood_of hst hpl (by rw [pvTs_sl]; exact h0) ?_
  rw [pvEnt_tr]
  refine fmEv.imp (pvX_ok hst hT n d y 0 _ _ _ r h1) (fun o M' hh => ?_)
  obtain ⟨e1, e2⟩ := hh
  subst e2
  exact ⟨r.1, e1, h2⟩
theorem pvEv.step {i : Instr} {len : Nat} {q : pvS} (hd : decode y.2.1 pc = .ok (i, len)) (hl : (pvSw i || Nat.beq len (scLen i)) = true) (hp : pvStp T d y pc i L st M = some (.inl q)) (k : pvEv T d y q.1 q.2.1 q.2.2.1 q.2.2.2 Q) : pvEv T d y pc L st M Q := by
  obtain ⟨n, r, h1, h2⟩ := k
  refine ⟨n + 1, r, ?_, h2⟩
  simp only [pvX, hd, hp, hl, if_true]
  exact h1
theorem pvEv.stop {i : Instr} {len : Nat} {r : fmR} {M' : fmM} (hd : decode y.2.1 pc = .ok (i, len)) (hl : (pvSw i || Nat.beq len (scLen i)) = true) (hp : pvStp T d y pc i L st M = some (.inr (.inl (r, M')))) (hq : Q r M') : pvEv T d y pc L st M Q := by
  refine ⟨1, (r, M'), ?_, hq⟩
  simp only [pvX, hd, hp, hl, if_true]
theorem pvEv.call {d' pc' : Nat} {i : Instr} {len : Nat} {y' : fmY} {args st' : List Value} (hdd : d' + 1 ≤ d) (hd : decode y.2.1 pc = .ok (i, len)) (hl : (pvSw i || Nat.beq len (scLen i)) = true) (hp : pvStp T d y pc i L st M = some (.inr (.inr (y', args, pc', st')))) (hg : pvGood T d' y' args M (pvThen T d y pc' L st' Q)) : pvEv T d y pc L st M Q := by
  obtain ⟨h0, n, r, h1, h2⟩ := hg
  cases d with
  | zero => omega
  | succ e =>
    have h1' := pvX_mono _ _ _ _ _ _ _ _ h1 n e (Nat.le_refl _) (by omega)
    obtain ⟨o, M1⟩ := r
    cases o with
    | inl v =>
      obtain ⟨n2, r2, k1, k2⟩ := h2
      refine ⟨n + n2 + 1, r2, ?_, k2⟩
      simp only [pvX, hd, hp, hl, if_true]
      rw [if_pos (by simpa using h0), pvX_mono _ _ _ _ _ _ _ _ h1' (n + n2) e (by omega) (Nat.le_refl _)]
      exact pvX_mono _ _ _ _ _ _ _ _ k1 (n + n2) (e + 1) (by omega) (Nat.le_refl _)
    | inr E =>
      refine ⟨n + 1, (.inr E, M1), ?_, h2⟩
      simp only [pvX, hd, hp, hl, if_true]
      rw [if_pos (by simpa using h0), h1']
end PvEv
end
