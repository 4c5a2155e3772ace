-- THE JUDGEMENTS OF THE FLAT MACHINE
def fmLen : List Nat := [12, 21, 39, 38, 27]
def fmB8 (t : List Nat) : List Int32 := t.map (fun n => Int32.ofNat n)
def fmByt : List (List Int32) := [fmB8 [110, 111, 32, 115, 117, 99, 104, 32, 108, 105, 102, 101], fmB8 [110, 111, 116, 32, 119, 105, 116, 104, 105, 110, 32, 105, 116, 115, 32, 98, 111, 117, 110, 100, 115], fmB8 [108, 105, 102, 101, 32, 104, 97, 115, 32, 98, 121, 32, 102, 97, 99, 116, 32, 104, 111, 117, 114, 115, 32, 108, 97, 99, 107, 32, 119, 114, 111, 110, 103, 32, 104, 97, 108, 102, 32], fmB8 [97, 103, 101, 32, 121, 101, 97, 114, 115, 32, 119, 111, 114, 116, 104, 32, 100, 101, 97, 100, 32, 102, 97, 99, 116, 115, 32, 108, 101, 97, 115, 116, 32, 109, 111, 115, 116, 32], fmB8 [119, 114, 105, 116, 101, 32, 114, 101, 110, 101, 119, 32, 100, 105, 101, 32, 119, 101, 101, 107, 32, 97, 103, 97, 105, 110, 32]]
/-- what Preconditions.SIOOBE_FORMATTER holds: null or some reference, kept at place 99 of the texts' addresses -/
def fmSi (G : fmG) : Value := match G.2.2.2.1 99 with
  | 0 => .null
  | t + 1 => .ref t
def fmSt (G : fmG) (A : Nat → Prop) (U : State) (H : Heap) : Prop := va_Z "java/lang/String" "COMPACT_STRINGS" "Z" (.int 1) A U H ∧ va_Z "jdk/internal/util/Preconditions" "SIOOBE_FORMATTER" "Ljava/util/function/BiFunction;" (fmSi G) A U H
def fmStr (G : fmG) (A : Nat → Prop) (s : State) : Prop := vk_S 5 fmLen fmByt G.2.2.2.1 G.2.2.2.2 A s s.heap ∧ vk_R "LifeDrawer" 371 "no such life" (G.2.2.2.1 0) s ∧ vk_R "LifeDrawer" 378 "not within its bounds" (G.2.2.2.1 1) s ∧ vk_R "LifeDrawer$Told" 91 "life has by fact hours lack wrong half " (G.2.2.2.1 2) s ∧ vk_R "LifeDrawer$Law" 76 "age years worth dead facts least most " (G.2.2.2.1 3) s ∧ vk_R "LifeDrawer$Work" 54 "write renew die week again " (G.2.2.2.1 4) s ∧ fmSt G A s s.heap
abbrev fmIAE : String := "java/lang/IllegalArgumentException"
abbrev fmNSE : String := "java/util/NoSuchElementException"
def fmCa (C D : String) (U : State) : Prop := ∃ c t : ClassId, U.vm.findClass C = some c ∧ U.vm.findClass D = some t ∧ U.vm.assignable c t = true
theorem fmCa.moved {C D : String} {u U : State} (hvm : u.vm.Alike U.vm) (h : fmCa C D u) : fmCa C D U := by
  obtain ⟨c, t, h1, h2, h3⟩ := h
  exact ⟨c, t, by rw [hvm.findClass]; exact h1, by rw [hvm.findClass]; exact h2, by rw [hvm.assignable]; exact h3⟩
theorem fmCa.of {args : Array Value} {s : State} {C D : String} (h : (Cond.castable C D).before args s = true) : fmCa C D s := by
  obtain ⟨c, t, h1, h2, h3⟩ := Cond.castable_spec h
  exact ⟨c, t, h1, h2, h3⟩
theorem fmCa.use {args : Array Value} {s : State} {C D : String} (h : fmCa C D s) : (Cond.castable C D).before args s = true := by
  obtain ⟨c, t, h1, h2, h3⟩ := h
  simp [Cond.before, Cond.holds, Cond.value, h1, h2, h3]
def fmDe (x : MethodName) (U : State) : Prop := (Cond.declares x).before #[] U = true
theorem fmDe.moved {x : MethodName} {u U : State} (hvm : u.vm.Alike U.vm) (h : fmDe x u) : fmDe x U := va_tabs rfl (rfl : (u.setVm U.vm).vm = U.vm) (by rw [Cond.declares_setVm hvm]; exact h)
theorem fmDe.of {A : Array Value} {x : MethodName} {U : State} (h : (Cond.declares x).before A U = true) : fmDe x U := va_tabs rfl rfl h
theorem fmDe.use {A : Array Value} {x : MethodName} {U : State} (h : fmDe x U) : (Cond.declares x).before A U = true := va_tabs rfl rfl h
def fmDes (s : State) : Prop := fmDe (Bundle.initS "java/lang/RuntimeException") s ∧ fmDe (Bundle.initS "java/lang/Exception") s ∧ fmDe (Bundle.initS Bundle.tN) s
def fmCas (s : State) : Prop := fmCa fmIAE fmIAE s ∧ fmCa fmNSE fmNSE s ∧ va_Nc fmIAE fmNSE s ∧ fmDes s
theorem fmCas.moved {u U : State} (hvm : u.vm.Alike U.vm) (h : fmCas u) : fmCas U := ⟨h.1.moved hvm, h.2.1.moved hvm, h.2.2.1.moved hvm, h.2.2.2.1.moved hvm, h.2.2.2.2.1.moved hvm, h.2.2.2.2.2.moved hvm⟩
/-- what stays true all through a method: classes, statics, texts -/
def fmEnv (G : fmG) (A : Nat → Prop) (s : State) : Prop := va_K G.2.1 vwCl (fmTys G) s ∧ vx_Zq Bundle.tN "UNASSIGNED_STACK" Bundle.steD A s s.heap ∧ vx_Zq Bundle.tN "SUPPRESSED_SENTINEL" Bundle.listD A s s.heap ∧ fmCas s ∧ fmStr G A s
def fmPic (T : fmT) (G : fmG) (A : Nat → Prop) (M : fmM) (rest : va_W) (H : Heap) : Prop := va_P G.2.1 vwCl (fmL T G M ++ rest) H ∧ va_D A (fmL T G M ++ rest)
theorem fmEnv.warm {G : fmG} {A : Nat → Prop} {s U : State} {H : Heap} {locs : List Loc} (h : fmEnv G A s) (hS : va_S A s.heap H locs) (hU : U.heap = H) (hW : s.WarmedH U.vm) : fmEnv G A U := by
  obtain ⟨h1, h2, h3, h0, h4, h5, h6, h7, h8, h9, ha, hb⟩ := h
  refine ⟨va_K.moved hW.alike h1, ?_, ?_, h0.moved hW.alike, ?_, vk_R.warm hW h5, vk_R.warm hW h6, vk_R.warm hW h7, vk_R.warm hW h8, vk_R.warm hW h9, ?_, ?_⟩
  · rw [hU]; exact vx_Zq.moved hW.alike (h2.kept hS.2.1)
  · rw [hU]; exact vx_Zq.moved hW.alike (h3.kept hS.2.1)
  · rw [hU]; exact vk_S.moved hW.alike (h4.kept hS.2.1)
  · rw [hU]; exact va_Z.moved hW.alike (ha.kept hS.2.1)
  · rw [hU]; exact va_Z.moved hW.alike (hb.kept hS.2.1)
theorem fmEnv.calling {G : fmG} {A : Nat → Prop} {U : State} {g : JFrame} {mk : MethodId} {a : Array Value} (h : fmEnv G A U) : fmEnv G A (U.calling g mk a) := by
  obtain ⟨h1, h2, h3, h0, h4, h5, h6, h7, h8, h9, ha, hb⟩ := h
  exact ⟨va_K.moved (u := U) (U := U.calling g mk a) (Vm.Alike.refl U.vm) h1, vx_Zq.moved (u := U) (U := U.calling g mk a) (Vm.Alike.refl U.vm) h2, vx_Zq.moved (u := U) (U := U.calling g mk a) (Vm.Alike.refl U.vm) h3, h0.moved (u := U) (U := U.calling g mk a) (Vm.Alike.refl U.vm), vk_S.moved (u := U) (U := U.calling g mk a) (Vm.Alike.refl U.vm) h4, vk_R.same (u := U) (U := U.calling g mk a) rfl h5, vk_R.same (u := U) (U := U.calling g mk a) rfl h6, vk_R.same (u := U) (U := U.calling g mk a) rfl h7, vk_R.same (u := U) (U := U.calling g mk a) rfl h8, vk_R.same (u := U) (U := U.calling g mk a) rfl h9, va_Z.moved (u := U) (U := U.calling g mk a) (Vm.Alike.refl U.vm) ha, va_Z.moved (u := U) (U := U.calling g mk a) (Vm.Alike.refl U.vm) hb⟩
def fmFix (p : Program) (s : State) (m : MethodId) (args : Array Value) (meth : Method) (c : Code) (y : fmY) : Prop := p.tables.exec = Jvm.exec ∧ c.code = y.2.1 ∧ c.maxLocals = y.2.2.1 ∧ meth.sig.returnType = y.2.2.2 ∧ s.vm.findClass y.1.cls = some m.cls ∧ (∀ w ∈ fmWy y, w.before args s = true) ∧ meth.locks = false ∧ ∀ x ∈ c.exceptionTable.toList, False
def fmMc (o : fmR) : Nat := match o with
  | .inl _ => 0
  | .inr _ => 1
def fmMs (o : fmR) : Nat := match o with
  | .inl _ => 0
  | .inr _ => 6
def fmRm (d : Nat) (o : fmR) : Room := { frames := d + 10, locals := 60 * d + 200, cells := fmMc o, slots := fmMs o }
def fmQc (T : fmT) (G : fmG) (A : Nat → Prop) (M : fmM) (rest : va_W) (o : fmR) : Array Value → State → Outcome → State → Prop := fun _ st oc t => (∃ v, o = .inl v ∧ oc = .returned v) ∧ fmPic T G A M rest t.heap ∧ va_F A st t
def fmXC (T : fmT) (G : fmG) (A : Nat → Prop) (M : fmM) (rest : va_W) (o : fmR) : String → State → State → Prop := fun E st t => o = .inr E ∧ fmPic T G A M rest t.heap ∧ va_F A st t
def fmEnds (T : fmT) (l : Launch) (G : fmG) (d : Nat) (y : fmY) (pc : Nat) (L : List (Option Value)) (st : List Value) (M : fmM) (o : fmR) (M' : fmM) : Prop :=
  ∀ (p : Program) (e : Env) (s : State) (m : MethodId) (args : Array Value) (below : List Frame) (meth : Method) (c : Code) (H : Heap) (locs : List Loc) (A : Nat → Prop) (rest : va_W) (ls : Array Slot), l.stackTraces = false → fmFix p s m args meth c y → fmEnv G A s → (∀ q : Nat, s.heap.size ≤ q → A q) → fmPic T G A M rest H → va_S A s.heap H locs → fmHas ls y.2.2.1 L →
    W p l e (fmRm d o) s m args below meth c H locs 0 0 (vx_MQ below (fmQc T G A M' rest o) (fmXC T G A M' rest o) args s (fmMc o) (fmMs o) A) (F0 m pc ls st)
/-- from here on the method comes to an end with Q -/
def fmEv (T : fmT) (l : Launch) (G : fmG) (d : Nat) (y : fmY) (pc : Nat) (L : List (Option Value)) (st : List Value) (M : fmM) (Q : fmR → fmM → Prop) : Prop := ∃ (o : fmR) (M' : fmM), Q o M' ∧ fmEnds T l G d y pc L st M o M'
def fmPc (T : fmT) (G : fmG) (args : List Value) (M : fmM) (A : Nat → Prop) (rest : va_W) : Array Value → State → Prop := va_Pc args (fun U => fmEnv G A U ∧ (∀ q : Nat, U.heap.size ≤ q → A q) ∧ fmPic T G A M rest U.heap)
/-- a call of y with these arguments comes to an end with Q -/
def fmGood (T : fmT) (l : Launch) (G : fmG) (d : Nat) (y : fmY) (args : List Value) (M : fmM) (Q : fmR → fmM → Prop) : Prop := ∃ (o : fmR) (M' : fmM), Q o M' ∧ ∀ (A : Nat → Prop) (rest : va_W), vx_Met l y.1 (fmWy y) (fmRm d o) (fmPc T G args M A rest) (fmQc T G A M' rest o) (fmXC T G A M' rest o) (fmMc o) (fmMs o) A
theorem fmPc.blind {T : fmT} {G : fmG} {args : List Value} {M : fmM} {A : Nat → Prop} {rest : va_W} : FrameBlind (fmPc T G args M A rest) := by
  intro a U g mk h
  obtain ⟨h0, h1, h2, h3⟩ := h
  exact ⟨h0, h1.calling, h2, h3⟩
section FmRows
variable {T : fmT} {l : Launch} {G : fmG} {d : Nat} {y : fmY} {pc : Nat} {L : List (Option Value)} {st : List Value} {M : fmM} {Q : fmR → fmM → Prop}
theorem fmEv.imp {Q' : fmR → fmM → Prop} (h : fmEv T l G d y pc L st M Q) (hq : ∀ o M', Q o M' → Q' o M') : fmEv T l G d y pc L st M Q' := by
  obtain ⟨o, M', h1, h2⟩ := h
  exact ⟨o, M', hq o M' h1, h2⟩
theorem fmGood.imp {args : List Value} {Q' : fmR → fmM → Prop} (h : fmGood T l G d y args M Q) (hq : ∀ o M', Q o M' → Q' o M') : fmGood T l G d y args M Q' := by
  obtain ⟨o, M', h1, h2⟩ := h
  exact ⟨o, M', hq o M' h1, h2⟩
theorem fm_row {pc' : Nat} {st' : List Value} (h : ∀ (p : Program) (e : Env) (R : Room) (s : State) (m : MethodId) (args : Array Value) (below : List Frame) (meth : Method) (c : Code) (H : Heap) (locs : List Loc) (cells slots : Nat) (Qf : State → Prop) (ls : Array Slot), p.tables.exec = Jvm.exec → c.code = y.2.1 → fmHas ls y.2.2.1 L → W p l e R s m args below meth c H locs cells slots Qf (F0 m pc' ls st') → W p l e R s m args below meth c H locs cells slots Qf (F0 m pc ls st))
    (k : fmEv T l G d y pc' L st' M Q) : fmEv T l G d y pc L st M Q := by
  obtain ⟨o, M', hq, k⟩ := k
  refine ⟨o, M', hq, ?_⟩
  intro p e s m args below meth c H locs A rest ls hst hF hE hA hP hS hL
  exact h p e _ s m args below meth c H locs 0 0 _ ls hF.1 hF.2.1 hL (k p e s m args below meth c H locs A rest ls hst hF hE hA hP hS hL)
/-- a row that asks the method's words -/
theorem fm_roww {pc' : Nat} {st' : List Value} (h : ∀ (p : Program) (e : Env) (R : Room) (s : State) (m : MethodId) (args : Array Value) (below : List Frame) (meth : Method) (c : Code) (H : Heap) (locs : List Loc) (cells slots : Nat) (Qf : State → Prop) (ls : Array Slot) (A : Nat → Prop), fmFix p s m args meth c y → fmEnv G A s → W p l e R s m args below meth c H locs cells slots Qf (F0 m pc' ls st') → W p l e R s m args below meth c H locs cells slots Qf (F0 m pc ls st))
    (k : fmEv T l G d y pc' L st' M Q) : fmEv T l G d y pc L st M Q := by
  obtain ⟨o, M', hq, k⟩ := k
  refine ⟨o, M', hq, ?_⟩
  intro p e s m args below meth c H locs A rest ls hst hF hE hA hP hS hL
  exact h p e _ s m args below meth c H locs 0 0 _ ls A hF hE (k p e s m args below meth c H locs A rest ls hst hF hE hA hP hS hL)
theorem fm_br {pt pf : Nat} {st' : List Value} {cnd : Prop} (h : ∀ (p : Program) (e : Env) (R : Room) (s : State) (m : MethodId) (args : Array Value) (below : List Frame) (meth : Method) (c : Code) (H : Heap) (locs : List Loc) (cells slots : Nat) (Qf : State → Prop) (ls : Array Slot), p.tables.exec = Jvm.exec → c.code = y.2.1 → (cnd → W p l e R s m args below meth c H locs cells slots Qf (F0 m pt ls st')) → (¬ cnd → W p l e R s m args below meth c H locs cells slots Qf (F0 m pf ls st')) → W p l e R s m args below meth c H locs cells slots Qf (F0 m pc ls st))
    (kt : cnd → fmEv T l G d y pt L st' M Q) (kf : ¬ cnd → fmEv T l G d y pf L st' M Q) : fmEv T l G d y pc L st M Q := by
  by_cases hc : cnd
  · obtain ⟨o, M', hq, k⟩ := kt hc
    refine ⟨o, M', hq, ?_⟩
    intro p e s m args below meth c H locs A rest ls hst hF hE hA hP hS hL
    exact h p e _ s m args below meth c H locs 0 0 _ ls hF.1 hF.2.1 (fun _ => k p e s m args below meth c H locs A rest ls hst hF hE hA hP hS hL) (fun q => absurd hc q)
  · obtain ⟨o, M', hq, k⟩ := kf hc
    refine ⟨o, M', hq, ?_⟩
    intro p e s m args below meth c H locs A rest ls hst hF hE hA hP hS hL
    exact h p e _ s m args below meth c H locs 0 0 _ ls hF.1 hF.2.1 (fun q => absurd q hc) (fun _ => k p e s m args below meth c H locs A rest ls hst hF hE hA hP hS hL)
/-- a row that writes a local -/
theorem fm_rowl {pc' : Nat} {st' : List Value} {L' : List (Option Value)} (h : ∀ (p : Program) (e : Env) (R : Room) (s : State) (m : MethodId) (args : Array Value) (below : List Frame) (meth : Method) (c : Code) (H : Heap) (locs : List Loc) (cells slots : Nat) (Qf : State → Prop) (ls : Array Slot), p.tables.exec = Jvm.exec → c.code = y.2.1 → fmHas ls y.2.2.1 L → (∀ ls' : Array Slot, fmHas ls' y.2.2.1 L' → W p l e R s m args below meth c H locs cells slots Qf (F0 m pc' ls' st')) → W p l e R s m args below meth c H locs cells slots Qf (F0 m pc ls st))
    (k : fmEv T l G d y pc' L' st' M Q) : fmEv T l G d y pc L st M Q := by
  obtain ⟨o, M', hq, k⟩ := k
  refine ⟨o, M', hq, ?_⟩
  intro p e s m args below meth c H locs A rest ls hst hF hE hA hP hS hL
  exact h p e _ s m args below meth c H locs 0 0 _ ls hF.1 hF.2.1 hL (fun ls' hL' => k p e s m args below meth c H locs A rest ls' hst hF hE hA hP hS hL')
/-- fewer locals -/
theorem fm_less {L' : List (Option Value)} (hl : ∀ (i : Nat) (v : Value), L'[i]? = some (some v) → L[i]? = some (some v)) (k : fmEv T l G d y pc L' st M Q) : fmEv T l G d y pc L st M Q := by
  obtain ⟨o, M', hq, k⟩ := k
  refine ⟨o, M', hq, ?_⟩
  intro p e s m args below meth c H locs A rest ls hst hF hE hA hP hS hL
  exact k p e s m args below meth c H locs A rest ls hst hF hE hA hP hS ⟨hL.1, hL.2.1, fun i v h => hL.2.2 i v (hl i v h)⟩
theorem fm_iconst {n : Int} {v : Int32} (hv : Int32.ofInt n = v) (hdg : decode y.2.1 pc = .ok (.iconst n, 1)) (k : fmEv T l G d y (pc + 1) L (.int v :: st) M Q) : fmEv T l G d y pc L (st) M Q := fm_row (fun _ _ _ _ _ _ _ _ _ _ _ _ _ _ _ hx hb hL kk => lv_iconst hx hb hdg hv kk) k
theorem fm_bipush {n : Int} {v : Int32} (hv : (Int8.ofInt n).toInt32 = v) (hdg : decode y.2.1 pc = .ok (.bipush n, 2)) (k : fmEv T l G d y (pc + 2) L (.int v :: st) M Q) : fmEv T l G d y pc L (st) M Q := fm_row (fun _ _ _ _ _ _ _ _ _ _ _ _ _ _ _ hx hb hL kk => lv_bipush hx hb hdg hv kk) k
theorem fm_sipush {n : Int} {v : Int32} (hv : (Int16.ofInt n).toInt32 = v) (hdg : decode y.2.1 pc = .ok (.sipush n, 3)) (k : fmEv T l G d y (pc + 3) L (.int v :: st) M Q) : fmEv T l G d y pc L (st) M Q := fm_row (fun _ _ _ _ _ _ _ _ _ _ _ _ _ _ _ hx hb hL kk => lv_sipush hx hb hdg hv kk) k
theorem fm_lconst {n : Fin 2} {v : Int64} (hv : Int64.ofNat (n : Nat) = v) (hdg : decode y.2.1 pc = .ok (.lconst n, 1)) (k : fmEv T l G d y (pc + 1) L (.long v :: st) M Q) : fmEv T l G d y pc L (st) M Q := fm_row (fun _ _ _ _ _ _ _ _ _ _ _ _ _ _ _ hx hb hL kk => lv_lconst hx hb hdg hv kk) k
theorem fm_iload_n {n : Fin 4} {x : Int32} (hv : L[(n : Nat)]? = some (some (.int x))) (hdg : decode y.2.1 pc = .ok (.iload_n n, 1)) (k : fmEv T l G d y (pc + 1) L (.int x :: st) M Q) : fmEv T l G d y pc L (st) M Q := fm_row (fun _ _ _ _ _ _ _ _ _ _ _ _ _ _ _ hx hb hL kk => lv_iload_n hx hb hdg rfl (hL.2.2 _ _ hv) kk) k
theorem fm_iload {i : Nat} {x : Int32} (hv : L[i]? = some (some (.int x))) (hdg : decode y.2.1 pc = .ok (.iload i, 2)) (k : fmEv T l G d y (pc + 2) L (.int x :: st) M Q) : fmEv T l G d y pc L (st) M Q := fm_row (fun _ _ _ _ _ _ _ _ _ _ _ _ _ _ _ hx hb hL kk => lv_iload hx hb hdg (hL.2.2 _ _ hv) kk) k
theorem fm_istore_n {n : Fin 4} {x : Int32} (hn : (n : Nat) < y.2.2.1) (h2 : fmNo2 L (n : Nat) = true) (hdg : decode y.2.1 pc = .ok (.istore_n n, 1)) (k : fmEv T l G d y (pc + 1) (L.set (n : Nat) (some (.int x))) st M Q) : fmEv T l G d y pc L (.int x :: st) M Q := fm_rowl (fun _ _ _ _ _ _ _ _ _ _ _ _ _ _ _ hx hb hL kk => lv_istore_n hx hb hdg rfl hL.lv hn rfl (fun ls h => kk ls (fmHas.set1 h h2))) k
theorem fm_istore {i : Nat} {x : Int32} (hn : i < y.2.2.1) (h2 : fmNo2 L i = true) (hdg : decode y.2.1 pc = .ok (.istore i, 2)) (k : fmEv T l G d y (pc + 2) (L.set i (some (.int x))) st M Q) : fmEv T l G d y pc L (.int x :: st) M Q := fm_rowl (fun _ _ _ _ _ _ _ _ _ _ _ _ _ _ _ hx hb hL kk => lv_istore hx hb hdg hL.lv hn rfl (fun ls h => kk ls (fmHas.set1 h h2))) k
theorem fm_lload_n {n : Fin 4} {x : Int64} (hv : L[(n : Nat)]? = some (some (.long x))) (hdg : decode y.2.1 pc = .ok (.lload_n n, 1)) (k : fmEv T l G d y (pc + 1) L (.long x :: st) M Q) : fmEv T l G d y pc L (st) M Q := fm_row (fun _ _ _ _ _ _ _ _ _ _ _ _ _ _ _ hx hb hL kk => lv_lload_n hx hb hdg rfl (hL.2.2 _ _ hv) kk) k
theorem fm_lload {i : Nat} {x : Int64} (hv : L[i]? = some (some (.long x))) (hdg : decode y.2.1 pc = .ok (.lload i, 2)) (k : fmEv T l G d y (pc + 2) L (.long x :: st) M Q) : fmEv T l G d y pc L (st) M Q := fm_row (fun _ _ _ _ _ _ _ _ _ _ _ _ _ _ _ hx hb hL kk => lv_lload hx hb hdg (hL.2.2 _ _ hv) kk) k
theorem fm_lstore_n {n : Fin 4} {x : Int64} (hn : (n : Nat) + 1 < y.2.2.1) (h2 : fmNo2 L (n : Nat) = true) (hdg : decode y.2.1 pc = .ok (.lstore_n n, 1)) (k : fmEv T l G d y (pc + 1) ((L.set (n : Nat) (some (.long x))).set ((n : Nat) + 1) none) st M Q) : fmEv T l G d y pc L (.long x :: st) M Q := fm_rowl (fun _ _ _ _ _ _ _ _ _ _ _ _ _ _ _ hx hb hL kk => lv_lstore_n hx hb hdg rfl hL.lv hn rfl (fun ls h => kk ls (fmHas.set2 h h2))) k
theorem fm_lstore {i : Nat} {x : Int64} (hn : i + 1 < y.2.2.1) (h2 : fmNo2 L i = true) (hdg : decode y.2.1 pc = .ok (.lstore i, 2)) (k : fmEv T l G d y (pc + 2) ((L.set i (some (.long x))).set (i + 1) none) st M Q) : fmEv T l G d y pc L (.long x :: st) M Q := fm_rowl (fun _ _ _ _ _ _ _ _ _ _ _ _ _ _ _ hx hb hL kk => lv_lstore hx hb hdg hL.lv hn rfl (fun ls h => kk ls (fmHas.set2 h h2))) k
theorem fm_aload_n {n : Fin 4} {x : Nat} (hv : L[(n : Nat)]? = some (some (.ref x))) (hdg : decode y.2.1 pc = .ok (.aload_n n, 1)) (k : fmEv T l G d y (pc + 1) L (.ref x :: st) M Q) : fmEv T l G d y pc L (st) M Q := fm_row (fun _ _ _ _ _ _ _ _ _ _ _ _ _ _ _ hx hb hL kk => lv_aload_n hx hb hdg rfl (hL.2.2 _ _ hv) kk) k
theorem fm_aload {i : Nat} {x : Nat} (hv : L[i]? = some (some (.ref x))) (hdg : decode y.2.1 pc = .ok (.aload i, 2)) (k : fmEv T l G d y (pc + 2) L (.ref x :: st) M Q) : fmEv T l G d y pc L (st) M Q := fm_row (fun _ _ _ _ _ _ _ _ _ _ _ _ _ _ _ hx hb hL kk => lv_aload hx hb hdg (hL.2.2 _ _ hv) kk) k
theorem fm_astore_n {n : Fin 4} {x : Nat} (hn : (n : Nat) < y.2.2.1) (h2 : fmNo2 L (n : Nat) = true) (hdg : decode y.2.1 pc = .ok (.astore_n n, 1)) (k : fmEv T l G d y (pc + 1) (L.set (n : Nat) (some (.ref x))) st M Q) : fmEv T l G d y pc L (.ref x :: st) M Q := fm_rowl (fun _ _ _ _ _ _ _ _ _ _ _ _ _ _ _ hx hb hL kk => lv_astore_n hx hb hdg rfl hL.lv hn rfl (fun ls h => kk ls (fmHas.set1 h h2))) k
theorem fm_astore {i : Nat} {x : Nat} (hn : i < y.2.2.1) (h2 : fmNo2 L i = true) (hdg : decode y.2.1 pc = .ok (.astore i, 2)) (k : fmEv T l G d y (pc + 2) (L.set i (some (.ref x))) st M Q) : fmEv T l G d y pc L (.ref x :: st) M Q := fm_rowl (fun _ _ _ _ _ _ _ _ _ _ _ _ _ _ _ hx hb hL kk => lv_astore hx hb hdg hL.lv hn rfl (fun ls h => kk ls (fmHas.set1 h h2))) k
theorem fm_lvk {L : List (Option Value)} {i : Nat} {v : Value} (h : L[i]? = some (some v)) : ∃ k : Nat, (fmLs L)[k]? = some (i, v) := List.getElem?_of_mem (fmLs_mem.mpr h)
theorem fm_iinc {i : Nat} {n : Int} {x v : Int32} (hl : L[i]? = some (some (.int x))) (hv : x + Int32.ofInt n = v) (hn : i < y.2.2.1) (h2 : fmNo2 L i = true) (hdg : decode y.2.1 pc = .ok (.iinc i n, 3)) (k : fmEv T l G d y (pc + 3) (L.set i (some (.int v))) st M Q) : fmEv T l G d y pc L st M Q := by
  obtain ⟨k9, hk9⟩ := fm_lvk hl
  exact fm_rowl (fun _ _ _ _ _ _ _ _ _ _ _ _ _ _ _ hx hb hL kk => lv_iinc hx hb hdg hL.lv hk9 hv hn rfl (fun ls h => kk ls (fmHas.set1 h h2))) k
theorem fm_iadd {x z : Int32} (hdg : decode y.2.1 pc = .ok (.iadd, 1)) (k : fmEv T l G d y (pc + 1) L (.int (x + z) :: st) M Q) : fmEv T l G d y pc L (.int z :: .int x :: st) M Q := fm_row (fun _ _ _ _ _ _ _ _ _ _ _ _ _ _ _ hx hb hL kk => lv_iadd hx hb hdg kk) k
theorem fm_ladd {x z : Int64} (hdg : decode y.2.1 pc = .ok (.ladd, 1)) (k : fmEv T l G d y (pc + 1) L (.long (x + z) :: st) M Q) : fmEv T l G d y pc L (.long z :: .long x :: st) M Q := fm_row (fun _ _ _ _ _ _ _ _ _ _ _ _ _ _ _ hx hb hL kk => lv_ladd hx hb hdg kk) k
theorem fm_isub {x z : Int32} (hdg : decode y.2.1 pc = .ok (.isub, 1)) (k : fmEv T l G d y (pc + 1) L (.int (x - z) :: st) M Q) : fmEv T l G d y pc L (.int z :: .int x :: st) M Q := fm_row (fun _ _ _ _ _ _ _ _ _ _ _ _ _ _ _ hx hb hL kk => lv_isub hx hb hdg kk) k
theorem fm_lsub {x z : Int64} (hdg : decode y.2.1 pc = .ok (.lsub, 1)) (k : fmEv T l G d y (pc + 1) L (.long (x - z) :: st) M Q) : fmEv T l G d y pc L (.long z :: .long x :: st) M Q := fm_row (fun _ _ _ _ _ _ _ _ _ _ _ _ _ _ _ hx hb hL kk => lv_lsub hx hb hdg kk) k
theorem fm_imul {x z : Int32} (hdg : decode y.2.1 pc = .ok (.imul, 1)) (k : fmEv T l G d y (pc + 1) L (.int (x * z) :: st) M Q) : fmEv T l G d y pc L (.int z :: .int x :: st) M Q := fm_row (fun _ _ _ _ _ _ _ _ _ _ _ _ _ _ _ hx hb hL kk => lv_imul hx hb hdg kk) k
theorem fm_lmul {x z : Int64} (hdg : decode y.2.1 pc = .ok (.lmul, 1)) (k : fmEv T l G d y (pc + 1) L (.long (x * z) :: st) M Q) : fmEv T l G d y pc L (.long z :: .long x :: st) M Q := fm_row (fun _ _ _ _ _ _ _ _ _ _ _ _ _ _ _ hx hb hL kk => lv_lmul hx hb hdg kk) k
theorem fm_iand {x z : Int32} (hdg : decode y.2.1 pc = .ok (.iand, 1)) (k : fmEv T l G d y (pc + 1) L (.int (x &&& z) :: st) M Q) : fmEv T l G d y pc L (.int z :: .int x :: st) M Q := fm_row (fun _ _ _ _ _ _ _ _ _ _ _ _ _ _ _ hx hb hL kk => lv_iand hx hb hdg kk) k
theorem fm_land {x z : Int64} (hdg : decode y.2.1 pc = .ok (.land, 1)) (k : fmEv T l G d y (pc + 1) L (.long (x &&& z) :: st) M Q) : fmEv T l G d y pc L (.long z :: .long x :: st) M Q := fm_row (fun _ _ _ _ _ _ _ _ _ _ _ _ _ _ _ hx hb hL kk => lv_land hx hb hdg kk) k
theorem fm_ior {x z : Int32} (hdg : decode y.2.1 pc = .ok (.ior, 1)) (k : fmEv T l G d y (pc + 1) L (.int (x ||| z) :: st) M Q) : fmEv T l G d y pc L (.int z :: .int x :: st) M Q := fm_row (fun _ _ _ _ _ _ _ _ _ _ _ _ _ _ _ hx hb hL kk => lv_ior hx hb hdg kk) k
theorem fm_lor {x z : Int64} (hdg : decode y.2.1 pc = .ok (.lor, 1)) (k : fmEv T l G d y (pc + 1) L (.long (x ||| z) :: st) M Q) : fmEv T l G d y pc L (.long z :: .long x :: st) M Q := fm_row (fun _ _ _ _ _ _ _ _ _ _ _ _ _ _ _ hx hb hL kk => lv_lor hx hb hdg kk) k
theorem fm_ixor {x z : Int32} (hdg : decode y.2.1 pc = .ok (.ixor, 1)) (k : fmEv T l G d y (pc + 1) L (.int (x ^^^ z) :: st) M Q) : fmEv T l G d y pc L (.int z :: .int x :: st) M Q := fm_row (fun _ _ _ _ _ _ _ _ _ _ _ _ _ _ _ hx hb hL kk => lv_ixor hx hb hdg kk) k
theorem fm_lxor {x z : Int64} (hdg : decode y.2.1 pc = .ok (.lxor, 1)) (k : fmEv T l G d y (pc + 1) L (.long (x ^^^ z) :: st) M Q) : fmEv T l G d y pc L (.long z :: .long x :: st) M Q := fm_row (fun _ _ _ _ _ _ _ _ _ _ _ _ _ _ _ hx hb hL kk => lv_lxor hx hb hdg kk) k
theorem fm_idiv {x z : Int32} (hne : ¬ z = 0) (hdg : decode y.2.1 pc = .ok (.idiv, 1)) (k : fmEv T l G d y (pc + 1) L (.int (x / z) :: st) M Q) : fmEv T l G d y pc L (.int z :: .int x :: st) M Q := fm_row (fun _ _ _ _ _ _ _ _ _ _ _ _ _ _ _ hx hb hL kk => lv_idiv hx hb hdg hne kk) k
theorem fm_irem {x z : Int32} (hne : ¬ z = 0) (hdg : decode y.2.1 pc = .ok (.irem, 1)) (k : fmEv T l G d y (pc + 1) L (.int (x - x / z * z) :: st) M Q) : fmEv T l G d y pc L (.int z :: .int x :: st) M Q := fm_row (fun _ _ _ _ _ _ _ _ _ _ _ _ _ _ _ hx hb hL kk => lv_irem hx hb hdg hne kk) k
theorem fm_ldiv {x z : Int64} (hne : ¬ z = 0) (hdg : decode y.2.1 pc = .ok (.ldiv, 1)) (k : fmEv T l G d y (pc + 1) L (.long (x / z) :: st) M Q) : fmEv T l G d y pc L (.long z :: .long x :: st) M Q := fm_row (fun _ _ _ _ _ _ _ _ _ _ _ _ _ _ _ hx hb hL kk => lv_ldiv hx hb hdg hne kk) k
theorem fm_lrem {x z : Int64} (hne : ¬ z = 0) (hdg : decode y.2.1 pc = .ok (.lrem, 1)) (k : fmEv T l G d y (pc + 1) L (.long (x - x / z * z) :: st) M Q) : fmEv T l G d y pc L (.long z :: .long x :: st) M Q := fm_row (fun _ _ _ _ _ _ _ _ _ _ _ _ _ _ _ hx hb hL kk => lv_lrem hx hb hdg hne kk) k
theorem fm_ineg {x : Int32} (hdg : decode y.2.1 pc = .ok (.ineg, 1)) (k : fmEv T l G d y (pc + 1) L (.int (-x) :: st) M Q) : fmEv T l G d y pc L (.int x :: st) M Q := fm_row (fun _ _ _ _ _ _ _ _ _ _ _ _ _ _ _ hx hb hL kk => lv_ineg hx hb hdg kk) k
theorem fm_ishl {x z : Int32} (hdg : decode y.2.1 pc = .ok (.ishl, 1)) (k : fmEv T l G d y (pc + 1) L (.int (x <<< (z &&& 31)) :: st) M Q) : fmEv T l G d y pc L (.int z :: .int x :: st) M Q := fm_row (fun _ _ _ _ _ _ _ _ _ _ _ _ _ _ _ hx hb hL kk => lv_ishl hx hb hdg kk) k
theorem fm_ishr {x z : Int32} (hdg : decode y.2.1 pc = .ok (.ishr, 1)) (k : fmEv T l G d y (pc + 1) L (.int (x >>> (z &&& 31)) :: st) M Q) : fmEv T l G d y pc L (.int z :: .int x :: st) M Q := fm_row (fun _ _ _ _ _ _ _ _ _ _ _ _ _ _ _ hx hb hL kk => lv_ishr hx hb hdg kk) k
theorem fm_iushr {x z : Int32} (hdg : decode y.2.1 pc = .ok (.iushr, 1)) (k : fmEv T l G d y (pc + 1) L (.int ((x.toUInt32 >>> (z.toUInt32 &&& Int32.toUInt32 31)).toInt32) :: st) M Q) : fmEv T l G d y pc L (.int z :: .int x :: st) M Q := fm_row (fun _ _ _ _ _ _ _ _ _ _ _ _ _ _ _ hx hb hL kk => lv_iushr hx hb hdg rfl kk) k
theorem fm_lshl {x : Int64} {z : Int32} (hdg : decode y.2.1 pc = .ok (.lshl, 1)) (k : fmEv T l G d y (pc + 1) L (.long (x <<< (z.toInt64 &&& 63)) :: st) M Q) : fmEv T l G d y pc L (.int z :: .long x :: st) M Q := fm_row (fun _ _ _ _ _ _ _ _ _ _ _ _ _ _ _ hx hb hL kk => lv_lshl hx hb hdg rfl kk) k
theorem fm_lshr {x : Int64} {z : Int32} (hdg : decode y.2.1 pc = .ok (.lshr, 1)) (k : fmEv T l G d y (pc + 1) L (.long (x >>> (z.toInt64 &&& 63)) :: st) M Q) : fmEv T l G d y pc L (.int z :: .long x :: st) M Q := fm_row (fun _ _ _ _ _ _ _ _ _ _ _ _ _ _ _ hx hb hL kk => lv_lshr hx hb hdg rfl kk) k
theorem fm_i2l {x : Int32} (hdg : decode y.2.1 pc = .ok (.i2l, 1)) (k : fmEv T l G d y (pc + 1) L (.long x.toInt64 :: st) M Q) : fmEv T l G d y pc L (.int x :: st) M Q := fm_row (fun _ _ _ _ _ _ _ _ _ _ _ _ _ _ _ hx hb hL kk => lv_i2l hx hb hdg rfl kk) k
theorem fm_l2i {x : Int64} (hdg : decode y.2.1 pc = .ok (.l2i, 1)) (k : fmEv T l G d y (pc + 1) L (.int x.toInt32 :: st) M Q) : fmEv T l G d y pc L (.long x :: st) M Q := fm_row (fun _ _ _ _ _ _ _ _ _ _ _ _ _ _ _ hx hb hL kk => lv_l2i hx hb hdg rfl kk) k
theorem fm_i2b {x : Int32} (hdg : decode y.2.1 pc = .ok (.i2b, 1)) (k : fmEv T l G d y (pc + 1) L (.int x.toInt8.toInt32 :: st) M Q) : fmEv T l G d y pc L (.int x :: st) M Q := fm_row (fun _ _ _ _ _ _ _ _ _ _ _ _ _ _ _ hx hb hL kk => lv_i2b hx hb hdg rfl kk) k
theorem fm_lcmp {x z : Int64} (hdg : decode y.2.1 pc = .ok (.lcmp, 1)) (k : fmEv T l G d y (pc + 1) L (.int (lg_cmp x z) :: st) M Q) : fmEv T l G d y pc L (.long z :: .long x :: st) M Q := fm_row (fun _ _ _ _ _ _ _ _ _ _ _ _ _ _ _ hx hb hL kk => W.lcmp hx hb hdg kk) k
theorem fm_dup {v : Value} (hc : v.category = 1) (hdg : decode y.2.1 pc = .ok (.dup, 1)) (k : fmEv T l G d y (pc + 1) L (v :: v :: st) M Q) : fmEv T l G d y pc L (v :: st) M Q := fm_row (fun _ _ _ _ _ _ _ _ _ _ _ _ _ _ _ hx hb hL kk => lv_dup hx hb hdg hc kk) k
theorem fm_dup2 {v u : Value} (hc : v.category = 1) (hc2 : u.category = 1) (hdg : decode y.2.1 pc = .ok (.dup2, 1)) (k : fmEv T l G d y (pc + 1) L (v :: u :: v :: u :: st) M Q) : fmEv T l G d y pc L (v :: u :: st) M Q := fm_row (fun _ _ _ _ _ _ _ _ _ _ _ _ _ _ _ hx hb hL kk => lv_dup2_11 hx hb hdg hc hc2 kk) k
theorem fm_dup2L {v : Value} (hc : v.category = 2) (hdg : decode y.2.1 pc = .ok (.dup2, 1)) (k : fmEv T l G d y (pc + 1) L (v :: v :: st) M Q) : fmEv T l G d y pc L (v :: st) M Q := fm_row (fun _ _ _ _ _ _ _ _ _ _ _ _ _ _ _ hx hb hL kk => lv_dup2_2 hx hb hdg hc kk) k
theorem fm_dup_x1 {v u : Value} (hc : v.category = 1) (hc2 : u.category = 1) (hdg : decode y.2.1 pc = .ok (.dup_x1, 1)) (k : fmEv T l G d y (pc + 1) L (v :: u :: v :: st) M Q) : fmEv T l G d y pc L (v :: u :: st) M Q := fm_row (fun _ _ _ _ _ _ _ _ _ _ _ _ _ _ _ hx hb hL kk => lv_dup_x1 hx hb hdg hc hc2 kk) k
theorem fm_pop {v : Value} (hc : v.category = 1) (hdg : decode y.2.1 pc = .ok (.pop, 1)) (k : fmEv T l G d y (pc + 1) L (st) M Q) : fmEv T l G d y pc L (v :: st) M Q := fm_row (fun _ _ _ _ _ _ _ _ _ _ _ _ _ _ _ hx hb hL kk => lv_pop hx hb hdg hc kk) k
theorem fm_if_eq {x : Int32} {off : Int} (tgt : Nat) (ht : (pc : Int) + off = (tgt : Int)) (hdg : decode y.2.1 pc = .ok (.ifCond .eq off, 3)) (kt : x = 0 → fmEv T l G d y tgt L st M Q) (kf : ¬ (x = 0) → fmEv T l G d y (pc + 3) L st M Q) : fmEv T l G d y pc L (.int x :: st) M Q := fm_br (fun _ _ _ _ _ _ _ _ _ _ _ _ _ _ _ hx hb k1 k2 => lv_if_eq hx hb hdg ht k1 k2) kt kf
theorem fm_icmp_eq {x z : Int32} {off : Int} (tgt : Nat) (ht : (pc : Int) + off = (tgt : Int)) (hdg : decode y.2.1 pc = .ok (.if_icmp .eq off, 3)) (kt : x = z → fmEv T l G d y tgt L st M Q) (kf : ¬ (x = z) → fmEv T l G d y (pc + 3) L st M Q) : fmEv T l G d y pc L (.int z :: .int x :: st) M Q := fm_br (fun _ _ _ _ _ _ _ _ _ _ _ _ _ _ _ hx hb k1 k2 => lv_icmp_eq hx hb hdg ht k1 k2) kt kf
theorem fm_if_lt {x : Int32} {off : Int} (tgt : Nat) (ht : (pc : Int) + off = (tgt : Int)) (hdg : decode y.2.1 pc = .ok (.ifCond .lt off, 3)) (kt : x < 0 → fmEv T l G d y tgt L st M Q) (kf : ¬ (x < 0) → fmEv T l G d y (pc + 3) L st M Q) : fmEv T l G d y pc L (.int x :: st) M Q := fm_br (fun _ _ _ _ _ _ _ _ _ _ _ _ _ _ _ hx hb k1 k2 => lv_if_lt hx hb hdg ht k1 k2) kt kf
theorem fm_icmp_lt {x z : Int32} {off : Int} (tgt : Nat) (ht : (pc : Int) + off = (tgt : Int)) (hdg : decode y.2.1 pc = .ok (.if_icmp .lt off, 3)) (kt : x < z → fmEv T l G d y tgt L st M Q) (kf : ¬ (x < z) → fmEv T l G d y (pc + 3) L st M Q) : fmEv T l G d y pc L (.int z :: .int x :: st) M Q := fm_br (fun _ _ _ _ _ _ _ _ _ _ _ _ _ _ _ hx hb k1 k2 => lv_icmp_lt hx hb hdg ht k1 k2) kt kf
theorem fm_if_ge {x : Int32} {off : Int} (tgt : Nat) (ht : (pc : Int) + off = (tgt : Int)) (hdg : decode y.2.1 pc = .ok (.ifCond .ge off, 3)) (kt : 0 ≤ x → fmEv T l G d y tgt L st M Q) (kf : ¬ (0 ≤ x) → fmEv T l G d y (pc + 3) L st M Q) : fmEv T l G d y pc L (.int x :: st) M Q := fm_br (fun _ _ _ _ _ _ _ _ _ _ _ _ _ _ _ hx hb k1 k2 => lv_if_ge hx hb hdg ht k1 k2) kt kf
theorem fm_icmp_ge {x z : Int32} {off : Int} (tgt : Nat) (ht : (pc : Int) + off = (tgt : Int)) (hdg : decode y.2.1 pc = .ok (.if_icmp .ge off, 3)) (kt : z ≤ x → fmEv T l G d y tgt L st M Q) (kf : ¬ (z ≤ x) → fmEv T l G d y (pc + 3) L st M Q) : fmEv T l G d y pc L (.int z :: .int x :: st) M Q := fm_br (fun _ _ _ _ _ _ _ _ _ _ _ _ _ _ _ hx hb k1 k2 => lv_icmp_ge hx hb hdg ht k1 k2) kt kf
theorem fm_if_gt {x : Int32} {off : Int} (tgt : Nat) (ht : (pc : Int) + off = (tgt : Int)) (hdg : decode y.2.1 pc = .ok (.ifCond .gt off, 3)) (kt : 0 < x → fmEv T l G d y tgt L st M Q) (kf : ¬ (0 < x) → fmEv T l G d y (pc + 3) L st M Q) : fmEv T l G d y pc L (.int x :: st) M Q := fm_br (fun _ _ _ _ _ _ _ _ _ _ _ _ _ _ _ hx hb k1 k2 => lv_if_gt hx hb hdg ht k1 k2) kt kf
theorem fm_icmp_gt {x z : Int32} {off : Int} (tgt : Nat) (ht : (pc : Int) + off = (tgt : Int)) (hdg : decode y.2.1 pc = .ok (.if_icmp .gt off, 3)) (kt : z < x → fmEv T l G d y tgt L st M Q) (kf : ¬ (z < x) → fmEv T l G d y (pc + 3) L st M Q) : fmEv T l G d y pc L (.int z :: .int x :: st) M Q := fm_br (fun _ _ _ _ _ _ _ _ _ _ _ _ _ _ _ hx hb k1 k2 => lv_icmp_gt hx hb hdg ht k1 k2) kt kf
theorem fm_if_le {x : Int32} {off : Int} (tgt : Nat) (ht : (pc : Int) + off = (tgt : Int)) (hdg : decode y.2.1 pc = .ok (.ifCond .le off, 3)) (kt : x ≤ 0 → fmEv T l G d y tgt L st M Q) (kf : ¬ (x ≤ 0) → fmEv T l G d y (pc + 3) L st M Q) : fmEv T l G d y pc L (.int x :: st) M Q := fm_br (fun _ _ _ _ _ _ _ _ _ _ _ _ _ _ _ hx hb k1 k2 => lv_if_le hx hb hdg ht k1 k2) kt kf
theorem fm_icmp_le {x z : Int32} {off : Int} (tgt : Nat) (ht : (pc : Int) + off = (tgt : Int)) (hdg : decode y.2.1 pc = .ok (.if_icmp .le off, 3)) (kt : x ≤ z → fmEv T l G d y tgt L st M Q) (kf : ¬ (x ≤ z) → fmEv T l G d y (pc + 3) L st M Q) : fmEv T l G d y pc L (.int z :: .int x :: st) M Q := fm_br (fun _ _ _ _ _ _ _ _ _ _ _ _ _ _ _ hx hb k1 k2 => lv_icmp_le hx hb hdg ht k1 k2) kt kf
theorem fm_if_ne {x : Int32} {off : Int} (tgt : Nat) (ht : (pc : Int) + off = (tgt : Int)) (hdg : decode y.2.1 pc = .ok (.ifCond .ne off, 3)) (kt : ¬ x = 0 → fmEv T l G d y tgt L st M Q) (kf : x = 0 → fmEv T l G d y (pc + 3) L st M Q) : fmEv T l G d y pc L (.int x :: st) M Q := fm_br (fun _ _ _ _ _ _ _ _ _ _ _ _ _ _ _ hx hb k1 k2 => lv_if_ne hx hb hdg ht k2 k1) kf kt
theorem fm_icmp_ne {x z : Int32} {off : Int} (tgt : Nat) (ht : (pc : Int) + off = (tgt : Int)) (hdg : decode y.2.1 pc = .ok (.if_icmp .ne off, 3)) (kt : ¬ x = z → fmEv T l G d y tgt L st M Q) (kf : x = z → fmEv T l G d y (pc + 3) L st M Q) : fmEv T l G d y pc L (.int z :: .int x :: st) M Q := fm_br (fun _ _ _ _ _ _ _ _ _ _ _ _ _ _ _ hx hb k1 k2 => lv_icmp_ne hx hb hdg ht k2 k1) kf kt
theorem fm_goto {off : Int} (tgt : Nat) (ht : (pc : Int) + off = (tgt : Int)) (hdg : decode y.2.1 pc = .ok (.goto off, 3)) (k : fmEv T l G d y tgt L st M Q) : fmEv T l G d y pc L st M Q := fm_row (fun _ _ _ _ _ _ _ _ _ _ _ _ _ _ _ hx hb hL kk => lv_goto hx hb hdg ht kk) k
end FmRows
