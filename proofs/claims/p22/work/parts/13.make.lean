-- MAKING: a machine whose world is a list that grows; what comes stands behind
theorem va_AOA.moved {t : FieldType} {u U : State} (hvm : u.vm.Alike U.vm) (h : va_AOA t u) : va_AOA t U := by
  have h2 : (Cond.arrayOver (.array t)).before #[] (u.setVm U.vm) = true := by rw [Cond.arrayOver_setVmC hvm]; exact h
  exact h2
def lwEnv (G : fmG) (A : Nat → Prop) (s : State) : Prop := fmEnv G A s ∧ va_AO "LifeDrawer$Shelf" s ∧ va_AO "LifeDrawer$State" s ∧ va_AOA .int s
theorem lwEnv.warm {G : fmG} {A : Nat → Prop} {s U : State} {H : Heap} {locs : List Loc} (h : lwEnv G A s) (hS : va_S A s.heap H locs) (hU : U.heap = H) (hW : s.WarmedH U.vm) : lwEnv G A U := ⟨h.1.warm hS hU hW, h.2.1.moved hW.alike, h.2.2.1.moved hW.alike, va_AOA.moved hW.alike h.2.2.2⟩
theorem lwEnv.calling {G : fmG} {A : Nat → Prop} {U : State} {g : JFrame} {mk : MethodId} {a : Array Value} (h : lwEnv G A U) : lwEnv G A (U.calling g mk a) := ⟨h.1.calling, h.2.1.moved (u := U) (U := U.calling g mk a) (Vm.Alike.refl U.vm), h.2.2.1.moved (u := U) (U := U.calling g mk a) (Vm.Alike.refl U.vm), va_AOA.moved (u := U) (U := U.calling g mk a) (Vm.Alike.refl U.vm) h.2.2.2⟩
def lwPic (G : fmG) (A : Nat → Prop) (ws : va_W) (H : Heap) : Prop := va_P G.2.1 vwCl ws H ∧ va_D A ws
def lwQc (G : fmG) (A : Nat → Prop) (Q : va_W → Prop) : Array Value → State → Outcome → State → Prop := va_Qv Q (fun ws t => lwPic G A ws t.heap) A
def lwRm (d mc ms : Nat) : Room := { frames := d + 10, locals := 60 * d + 200, cells := mc, slots := ms }
def lwFix (p : Program) (s : State) (m : MethodId) (args : Array Value) (meth : Method) (c : Code) (y : fmY) : Prop := p.tables.exec = Jvm.exec ∧ c.code = y.2.1 ∧ c.maxLocals = y.2.2.1 ∧ meth.sig.returnType = y.2.2.2 ∧ s.vm.findClass y.1.cls = some m.cls ∧ (∀ w ∈ fmWy y, w.before args s = true) ∧ meth.locks = false ∧ meth.name = y.1.name
def lwEv (l : Launch) (G : fmG) (d mc ms : Nat) (y : fmY) (pc : Nat) (L : List (Option Value)) (st : List Value) (ws : va_W) (cu su : Nat) (Q : va_W → Prop) : Prop :=
  ∀ (p : Program) (e : Env) (s : State) (m : MethodId) (args : Array Value) (below : List Frame) (meth : Method) (c : Code) (H : Heap) (locs : List Loc) (A : Nat → Prop) (ls : Array Slot), lwFix p s m args meth c y → lwEnv G A s → (∀ q : Nat, s.heap.size ≤ q → A q) → lwPic G A ws H → va_S A s.heap H locs → fmHas ls y.2.2.1 L →
    W p l e (lwRm d mc ms) s m args below meth c H locs cu su (MQ below (lwQc G A Q) args s mc ms A) (F0 m pc ls st)
def lwPc (G : fmG) (args : List Value) (ws : va_W) (A : Nat → Prop) : Array Value → State → Prop := va_Pc args (fun U => lwEnv G A U ∧ (∀ q : Nat, U.heap.size ≤ q → A q) ∧ lwPic G A ws U.heap)
def lwGood (l : Launch) (G : fmG) (d mc ms : Nat) (y : fmY) (args : List Value) (ws : va_W) (Q : va_W → Prop) : Prop := ∀ A : Nat → Prop, Met l y.1 (fmWy y) (lwRm d mc ms) (lwPc G args ws A) (lwQc G A Q) mc ms A
theorem lwPc.blind {G : fmG} {args : List Value} {ws : va_W} {A : Nat → Prop} : FrameBlind (lwPc G args ws A) := by
  intro a U g mk h
  obtain ⟨h0, h1, h2, h3⟩ := h
  exact ⟨h0, h1.calling, h2, h3⟩
theorem lwGood_of {l : Launch} {G : fmG} {d mc ms : Nat} {y : fmY} {args : List Value} {ws : va_W} {Q : va_W → Prop} (hn : plainName y.1.cls = true) (hlen : (lg_sl args).length ≤ y.2.2.1) (k : lwEv l G d mc ms y 0 (fmArgs args ++ List.replicate (y.2.2.1 - (fmArgs args).length) none) [] ws 0 0 Q) : lwGood l G d mc ms y args ws Q := by
  intro A
  refine Met.ofW (cc := y.2.1) (maxL := y.2.2.1) (ret := y.2.2.2) hn rfl ?_
  intro p e s m args' below meth c s₁ B hml hv
  obtain ⟨rfl, hE, hA, hP⟩ := hv
  have hx := B.exec
  have hb := B.bytes
  have hr := B.returns
  have hts := atoms_spec (ws := fmWy y) B.pre
  have hown : s.vm.findClass y.1.cls = some m.cls := findClass_of_methodNamed B.named
  have hlocks := B.notSynchronized
  have hin : meth.name = y.1.name := (name_of_methodNamed B.named B.method).1
  have hS : va_S A s.heap s.heap [] := va_S.rf
  have hl0 := lv_entry args (n := y.2.2.1) hlen
  rw [lg_entry_eq]
  generalize (lg_sl args ++ List.replicate (y.2.2.1 - (lg_sl args).length) Slot.unset).toArray = ls at hl0 ⊢
  refine k p e s m args.toArray below meth c s.heap [] A ls ⟨hx, hb, hml, hr, hown, hts, hlocks, hin⟩ hE hA hP hS ⟨hl0.1, hl0.2.1, fun i v hi => ?_⟩
  have h1 : (fmArgs args)[i]? = some (some v) := by
    rcases Nat.lt_or_ge i (fmArgs args).length with q | q
    · rwa [List.getElem?_append_left q] at hi
    · rw [List.getElem?_append_right q] at hi
      have := List.mem_of_getElem? hi
      simp at this
  have h2 := fmArgs_lv args 0 i v h1
  rw [Nat.zero_add] at h2
  exact hl0.2.2 (i, v) h2
theorem lw_oi : Cond.instanceMethod Lib.objectInit ∈ fmWs := fm_in 32 (by decide +kernel) rfl
theorem lw_oc : Cond.code Lib.objectInit ⟨#[0xb1]⟩ 1 none ∈ fmWs := fm_in 33 (by decide +kernel) rfl
section LwRows
variable {l : Launch} {G : fmG} {d mc ms : Nat} {y : fmY} {pc : Nat} {L : List (Option Value)} {st : List Value} {ws : va_W} {cu su : Nat} {Q : va_W → Prop}
theorem lz_row {pc' : Nat} {st' : List Value} (h : ∀ (p : Program) (e : Env) (R : Room) (s : State) (m : MethodId) (args : Array Value) (below : List Frame) (meth : Method) (c : Code) (H : Heap) (locs : List Loc) (cells slots : Nat) (Qf : State → Prop) (ls : Array Slot), p.tables.exec = Jvm.exec → c.code = y.2.1 → fmHas ls y.2.2.1 L → W p l e R s m args below meth c H locs cells slots Qf (F0 m pc' ls st') → W p l e R s m args below meth c H locs cells slots Qf (F0 m pc ls st))
    (k : lwEv l G d mc ms y pc' L st' ws cu su Q) : lwEv l G d mc ms y pc L st ws cu su Q := by
  intro p e s m args below meth c H locs A ls hF hE hA hP hS hL
  exact h p e _ s m args below meth c H locs cu su _ ls hF.1 hF.2.1 hL (k p e s m args below meth c H locs A ls hF hE hA hP hS hL)
theorem lw_br {pt pf : Nat} {st' : List Value} {cnd : Prop} (h : ∀ (p : Program) (e : Env) (R : Room) (s : State) (m : MethodId) (args : Array Value) (below : List Frame) (meth : Method) (c : Code) (H : Heap) (locs : List Loc) (cells slots : Nat) (Qf : State → Prop) (ls : Array Slot), p.tables.exec = Jvm.exec → c.code = y.2.1 → (cnd → W p l e R s m args below meth c H locs cells slots Qf (F0 m pt ls st')) → (¬ cnd → W p l e R s m args below meth c H locs cells slots Qf (F0 m pf ls st')) → W p l e R s m args below meth c H locs cells slots Qf (F0 m pc ls st))
    (kt : cnd → lwEv l G d mc ms y pt L st' ws cu su Q) (kf : ¬ cnd → lwEv l G d mc ms y pf L st' ws cu su Q) : lwEv l G d mc ms y pc L st ws cu su Q := by
  intro p e s m args below meth c H locs A ls hF hE hA hP hS hL
  exact h p e _ s m args below meth c H locs cu su _ ls hF.1 hF.2.1 (fun q => kt q p e s m args below meth c H locs A ls hF hE hA hP hS hL) (fun q => kf q p e s m args below meth c H locs A ls hF hE hA hP hS hL)
theorem lw_rowl {pc' : Nat} {st' : List Value} {L' : List (Option Value)} (h : ∀ (p : Program) (e : Env) (R : Room) (s : State) (m : MethodId) (args : Array Value) (below : List Frame) (meth : Method) (c : Code) (H : Heap) (locs : List Loc) (cells slots : Nat) (Qf : State → Prop) (ls : Array Slot), p.tables.exec = Jvm.exec → c.code = y.2.1 → fmHas ls y.2.2.1 L → (∀ ls' : Array Slot, fmHas ls' y.2.2.1 L' → W p l e R s m args below meth c H locs cells slots Qf (F0 m pc' ls' st')) → W p l e R s m args below meth c H locs cells slots Qf (F0 m pc ls st))
    (k : lwEv l G d mc ms y pc' L' st' ws cu su Q) : lwEv l G d mc ms y pc L st ws cu su Q := by
  intro p e s m args below meth c H locs A ls hF hE hA hP hS hL
  exact h p e _ s m args below meth c H locs cu su _ ls hF.1 hF.2.1 hL (fun ls' hL' => k p e s m args below meth c H locs A ls' hF hE hA hP hS hL')

theorem lw_iconst {n : Int} {v : Int32} (hv : Int32.ofInt n = v) (hdg : decode y.2.1 pc = .ok (.iconst n, 1)) (k : lwEv l G d mc ms y (pc + 1) L (.int v :: st) ws cu su Q) : lwEv l G d mc ms y pc L (st) ws cu su Q := lz_row (fun _ _ _ _ _ _ _ _ _ _ _ _ _ _ _ hx hb hL kk => lv_iconst hx hb hdg hv kk) k
theorem lw_bipush {n : Int} {v : Int32} (hv : (Int8.ofInt n).toInt32 = v) (hdg : decode y.2.1 pc = .ok (.bipush n, 2)) (k : lwEv l G d mc ms y (pc + 2) L (.int v :: st) ws cu su Q) : lwEv l G d mc ms y pc L (st) ws cu su Q := lz_row (fun _ _ _ _ _ _ _ _ _ _ _ _ _ _ _ hx hb hL kk => lv_bipush hx hb hdg hv kk) k
theorem lw_sipush {n : Int} {v : Int32} (hv : (Int16.ofInt n).toInt32 = v) (hdg : decode y.2.1 pc = .ok (.sipush n, 3)) (k : lwEv l G d mc ms y (pc + 3) L (.int v :: st) ws cu su Q) : lwEv l G d mc ms y pc L (st) ws cu su Q := lz_row (fun _ _ _ _ _ _ _ _ _ _ _ _ _ _ _ hx hb hL kk => lv_sipush hx hb hdg hv kk) k
theorem lw_iload_n {n : Fin 4} {x : Int32} (hv : L[(n : Nat)]? = some (some (.int x))) (hdg : decode y.2.1 pc = .ok (.iload_n n, 1)) (k : lwEv l G d mc ms y (pc + 1) L (.int x :: st) ws cu su Q) : lwEv l G d mc ms y pc L (st) ws cu su Q := lz_row (fun _ _ _ _ _ _ _ _ _ _ _ _ _ _ _ hx hb hL kk => lv_iload_n hx hb hdg rfl (hL.2.2 _ _ hv) kk) k
theorem lw_istore_n {n : Fin 4} {x : Int32} (hn : (n : Nat) < y.2.2.1) (h2 : fmNo2 L (n : Nat) = true) (hdg : decode y.2.1 pc = .ok (.istore_n n, 1)) (k : lwEv l G d mc ms y (pc + 1) (L.set (n : Nat) (some (.int x))) st ws cu su Q) : lwEv l G d mc ms y pc L (.int x :: st) ws cu su Q := lw_rowl (fun _ _ _ _ _ _ _ _ _ _ _ _ _ _ _ hx hb hL kk => lv_istore_n hx hb hdg rfl hL.lv hn rfl (fun ls h => kk ls (fmHas.set1 h h2))) k
theorem lw_aload_n {n : Fin 4} {x : Nat} (hv : L[(n : Nat)]? = some (some (.ref x))) (hdg : decode y.2.1 pc = .ok (.aload_n n, 1)) (k : lwEv l G d mc ms y (pc + 1) L (.ref x :: st) ws cu su Q) : lwEv l G d mc ms y pc L (st) ws cu su Q := lz_row (fun _ _ _ _ _ _ _ _ _ _ _ _ _ _ _ hx hb hL kk => lv_aload_n hx hb hdg rfl (hL.2.2 _ _ hv) kk) k
theorem lw_iinc {i : Nat} {n : Int} {x v : Int32} (hl : L[i]? = some (some (.int x))) (hv : x + Int32.ofInt n = v) (hn : i < y.2.2.1) (h2 : fmNo2 L i = true) (hdg : decode y.2.1 pc = .ok (.iinc i n, 3)) (k : lwEv l G d mc ms y (pc + 3) (L.set i (some (.int v))) st ws cu su Q) : lwEv l G d mc ms y pc L st ws cu su Q := by
  obtain ⟨k9, hk9⟩ := fm_lvk hl
  exact lw_rowl (fun _ _ _ _ _ _ _ _ _ _ _ _ _ _ _ hx hb hL kk => lv_iinc hx hb hdg hL.lv hk9 hv hn rfl (fun ls h => kk ls (fmHas.set1 h h2))) k
theorem lw_dup {v : Value} (hc : v.category = 1) (hdg : decode y.2.1 pc = .ok (.dup, 1)) (k : lwEv l G d mc ms y (pc + 1) L (v :: v :: st) ws cu su Q) : lwEv l G d mc ms y pc L (v :: st) ws cu su Q := lz_row (fun _ _ _ _ _ _ _ _ _ _ _ _ _ _ _ hx hb hL kk => lv_dup hx hb hdg hc kk) k
theorem lw_goto {off : Int} (tgt : Nat) (ht : (pc : Int) + off = (tgt : Int)) (hdg : decode y.2.1 pc = .ok (.goto off, 3)) (k : lwEv l G d mc ms y tgt L st ws cu su Q) : lwEv l G d mc ms y pc L st ws cu su Q := lz_row (fun _ _ _ _ _ _ _ _ _ _ _ _ _ _ _ hx hb hL kk => lv_goto hx hb hdg ht kk) k
theorem lw_icmp_ge {x z : Int32} {off : Int} (tgt : Nat) (ht : (pc : Int) + off = (tgt : Int)) (hdg : decode y.2.1 pc = .ok (.if_icmp .ge off, 3)) (kt : z ≤ x → lwEv l G d mc ms y tgt L st ws cu su Q) (kf : ¬ (z ≤ x) → lwEv l G d mc ms y (pc + 3) L st ws cu su Q) : lwEv l G d mc ms y pc L (.int z :: .int x :: st) ws cu su Q := lw_br (fun _ _ _ _ _ _ _ _ _ _ _ _ _ _ _ hx hb k1 k2 => lv_icmp_ge hx hb hdg ht k1 k2) kt kf
theorem lw_iloadn {n : Fin 4} {x : Int32} (i : Nat) (hi : (n : Nat) = i) (hv : L[i]? = some (some (.int x))) (hdg : decode y.2.1 pc = .ok (.iload_n n, 1)) (k : lwEv l G d mc ms y (pc + 1) L (.int x :: st) ws cu su Q) : lwEv l G d mc ms y pc L st ws cu su Q := lw_iload_n (by rw [hi]; exact hv) hdg k
theorem lw_aloadn {n : Fin 4} {x : Nat} (i : Nat) (hi : (n : Nat) = i) (hv : L[i]? = some (some (.ref x))) (hdg : decode y.2.1 pc = .ok (.aload_n n, 1)) (k : lwEv l G d mc ms y (pc + 1) L (.ref x :: st) ws cu su Q) : lwEv l G d mc ms y pc L st ws cu su Q := lw_aload_n (by rw [hi]; exact hv) hdg k
theorem lw_istoren {n : Fin 4} {x : Int32} (i : Nat) (hi : (n : Nat) = i) (hn : i < y.2.2.1) (h2 : fmNo2 L i = true) (hdg : decode y.2.1 pc = .ok (.istore_n n, 1)) (k : lwEv l G d mc ms y (pc + 1) (L.set i (some (.int x))) st ws cu su Q) : lwEv l G d mc ms y pc L (.int x :: st) ws cu su Q := by
  subst hi; exact lw_istore_n hn h2 hdg k
theorem lw_iincc (i : Nat) {n : Int} {x : Int32} (c : Int32) (hc : Int32.ofInt n = c) (hl : L[i]? = some (some (.int x))) (hn : i < y.2.2.1) (h2 : fmNo2 L i = true) (hdg : decode y.2.1 pc = .ok (.iinc i n, 3)) (k : lwEv l G d mc ms y (pc + 3) (L.set i (some (.int (x + c)))) st ws cu su Q) : lwEv l G d mc ms y pc L st ws cu su Q := lw_iinc hl (by rw [hc]) hn h2 hdg k
theorem lw_ws {ws' : va_W} (h : ws = ws') (k : lwEv l G d mc ms y pc L st ws' cu su Q) : lwEv l G d mc ms y pc L st ws cu su Q := by rw [h]; exact k
theorem lw_more {cu' su' : Nat} (h1 : cu ≤ cu') (h2 : su ≤ su') (k : lwEv l G d mc ms y pc L st ws cu' su' Q) : lwEv l G d mc ms y pc L st ws cu su Q := by
  intro p e s m args below meth c H locs A ls hF hE hA hP hS hL
  exact W.widen h1 h2 (k p e s m args below meth c H locs A ls hF hE hA hP hS hL)
theorem lw_return (hr : y.2.2.2 = none) (hc : cu ≤ mc) (hs : su ≤ ms) (hdg : decode y.2.1 pc = .ok (.return_, 1)) (hq : Q ws) : lwEv l G d mc ms y pc L [] ws cu su Q := by
  refine lw_more hc hs ?_
  intro p e s m args below meth c H locs A ls hF hE hA hP hS hL
  have hlocks := hF.2.2.2.2.2.2.1
  exact W.vret hF.1 hF.2.1 (hF.2.2.2.1.trans hr) (fun t ht hW => ⟨⟨ws, rfl, hq, by show lwPic G A ws t.heap; rw [ht]; exact hP⟩, hS.F ht⟩) hS.2.2 hdg
/-- Object's own constructor -/
theorem lw_obj {idx a : Nat} (hl : Cond.methodLink y.1.cls idx Lib.objectInit ∈ fmWs) (hc : (st.map fun v => v.category).sum ≤ 60) (hdg : decode y.2.1 pc = .ok (.invokespecial idx, 3)) (k : lwEv l G d mc ms y (pc + 3) L st ws cu su Q) : lwEv l G d mc ms y pc L (.ref a :: st) ws cu su Q := by
  intro p e s m args below meth c H locs A ls hF hE hA hP hS hL
  have hts := hF.2.2.2.2.2.1
  have ok : ∀ w ∈ fmWs, w.before args s = true := fun w h => hts w (List.mem_cons_of_mem _ h)
  refine W.objInit hF.1 hF.2.1 hF.2.2.2.2.1 (ok _ hl) (ok _ lw_oi) (ok _ lw_oc) rfl (by rw [hF.2.2.1]; exact hL.1) rfl hdg ?_ ?_ (k p e s m args below meth c H locs A ls hF hE hA hP hS hL)
  · show 1 ≤ d + 10; omega
  · show 2 * 0 + (st.map fun v => v.category).sum + 12 ≤ 60 * d + 200; omega
/-- a field written in the constructor, final or not -/
theorem lw_put {i j ci idx : Nat} {w0 xs : va_W} {a : Nat} {fs : List Value} {v : Value} (he : xs[i]? = some (a, .inr (ci, fs))) (hf : fmFl y.1.cls idx ci j) (hfin : fmFin ci j = true → y.1.name = "<init>" ∧ ∀ r : vw_C, vwCl[ci]? = some r → (r.2.1 j).1 = y.1.cls) (hn : narrow (fmTy ci j) v = v) (hfit : fits (fmTy ci j) v = true) (hl : j < fs.length) (hdg : decode y.2.1 pc = .ok (.putfield idx, 3))
    (kk : lwEv l G d mc ms y (pc + 3) L st (w0 ++ xs.set i (a, .inr (ci, fs.set j v))) cu su Q) : lwEv l G d mc ms y pc L (v :: .ref a :: st) (w0 ++ xs) cu su Q := by
  intro p e s m args below meth c H locs A ls hF hE hA hP hS hL
  obtain ⟨r, hcl, hjr, hln⟩ := hf
  have hts := hF.2.2.2.2.2.1
  have hi : (w0 ++ xs)[w0.length + i]? = some (a, .inr (ci, fs)) := by
    rw [List.getElem?_append_right (by omega), Nat.add_sub_cancel_left]; exact he
  have hset : ∀ x, (w0 ++ xs).set (w0.length + i) x = w0 ++ xs.set i x := by
    intro x
    rw [List.set_append_right _ _ (by omega), Nat.add_sub_cancel_left]
  cases hfn : fmFin ci j with
  | false =>
    have hfr : (r.2.1 j).2.2.2 = false := by
      unfold fmFin at hfn
      rw [hcl.1] at hfn
      exact hfn
    refine va_put (C := r.1) (T := r.2.1) (N := r.2.2) hF.1 hF.2.1 hts (fun w h => List.mem_cons_of_mem _ (hcl.2.1 w h)) (fmTy ci) hcl.2.2.1 hcl.2.2.2 hF.2.2.2.2.1 hE.1.1 hP.1 hP.2 hS (w0.length + i) hi hcl.1 j hjr (hts _ (List.mem_cons_of_mem _ hln)) (fun _ h => h) hfr (hcl.2.2.1 j hjr) hn hfit hl hdg (fun H1 locs1 hP1 hD1 hS1 => ?_)
    rw [hset] at hP1 hD1
    exact kk p e s m args below meth c H1 locs1 A ls hF hE hA ⟨hP1, hD1⟩ hS1 hL
  | true =>
    have hfr : (r.2.1 j).2.2.2 = true := by
      unfold fmFin at hfn
      rw [hcl.1] at hfn
      exact hfn
    obtain ⟨h7, h8⟩ := hfin hfn
    refine va_putF (C := r.1) (T := r.2.1) (N := r.2.2) hF.1 hF.2.1 hts (fun w h => List.mem_cons_of_mem _ (hcl.2.1 w h)) (fmTy ci) hcl.2.2.1 hcl.2.2.2 hF.2.2.2.2.1 hE.1.1 hP.1 hP.2 hS (w0.length + i) hi hcl.1 j hjr (hts _ (List.mem_cons_of_mem _ hln)) (fun _ h => h) hfr (hF.2.2.2.2.2.2.2.trans h7) (h8 r hcl.1) (hcl.2.2.1 j hjr) hn hfit hl hdg (fun H1 locs1 hP1 hD1 hS1 => ?_)
    rw [hset] at hP1 hD1
    exact kk p e s m args below meth c H1 locs1 A ls hF hE hA ⟨hP1, hD1⟩ hS1 hL
theorem lw_get {i j ci idx : Nat} {w0 xs : va_W} {a : Nat} {fs : List Value} {v : Value} (he : xs[i]? = some (a, .inr (ci, fs))) (hf : fmFl y.1.cls idx ci j) (hv : fs[j]? = some v) (hdg : decode y.2.1 pc = .ok (.getfield idx, 3))
    (kk : lwEv l G d mc ms y (pc + 3) L (v :: st) (w0 ++ xs) cu su Q) : lwEv l G d mc ms y pc L (.ref a :: st) (w0 ++ xs) cu su Q := by
  intro p e s m args below meth c H locs A ls hF hE hA hP hS hL
  obtain ⟨r, hcl, hjr, hln⟩ := hf
  have hts := hF.2.2.2.2.2.1
  have hi : (w0 ++ xs)[w0.length + i]? = some (a, .inr (ci, fs)) := by
    rw [List.getElem?_append_right (by omega), Nat.add_sub_cancel_left]; exact he
  exact va_get (C := r.1) (T := r.2.1) (N := r.2.2) hF.1 hF.2.1 hts (fun w h => List.mem_cons_of_mem _ (hcl.2.1 w h)) hF.2.2.2.2.1 hE.1.1 hP.1 (w0.length + i) hi hcl.1 j hjr (hts _ (List.mem_cons_of_mem _ hln)) (fun _ h => h) hv hdg (kk p e s m args below meth c H locs A ls hF hE hA hP hS hL)
/-- a new object -/
theorem lw_new {ci idx N : Nat} {r : vw_C} {fs : List Value} (hcl : fmCl ci r) (hN : r.2.2 = N) (hk : Cond.classLink y.1.cls idx r.1 ∈ fmWs) (hin : Cond.instantiable r.1 r.2.2 ∈ fmWs) (hini : Cond.initialized r.1 ∈ fmWs) (hfs : ∀ j, j < N → defaultValue (fmTy ci j) = vp_V fs j) (hc : cu + 1 ≤ mc) (hs : su + N ≤ ms) (hdg : decode y.2.1 pc = .ok (.new idx, 3))
    (kk : ∀ q : Nat, lwEv l G d mc ms y (pc + 3) L (.ref q :: st) (ws ++ [(q, .inr (ci, fs))]) (cu + 1) (su + N) Q) : lwEv l G d mc ms y pc L st ws cu su Q := by
  subst hN
  intro p e s m args below meth c H locs A ls hF hE hA hP hS hL
  have hts := hF.2.2.2.2.2.1
  have ok : ∀ w ∈ fmWs, w.before args s = true := fun w h => hts w (List.mem_cons_of_mem _ h)
  refine va_new (C := r.1) (T := r.2.1) (N := r.2.2) hF.1 hF.2.1 hts (fun w h => List.mem_cons_of_mem _ (hcl.2.1 w h)) (fmTy ci) hcl.2.2.1 hF.2.2.2.2.1 (ok _ hk) (ok _ hin) (ok _ hini) hE.1.1 hP.1 hP.2 hS hA hcl.1 hfs hc hs hdg (fun q H1 hP1 hD1 hS1 => ?_)
  exact kk q p e s m args below meth c H1 locs A ls hF hE hA ⟨hP1, hD1⟩ hS1 hL
/-- a new array of ints, longs or bytes -/
theorem lw_newa {atype : ArrayType} {t N : Nat} {ty : FieldType} {n : Int32} {a0 : vp_A} (hty : newarray.typeOf atype = ty) (ht : ∀ g : fmG, (fmTys g)[t]? = some (g.2.2.1 t, ty)) (hp : ∀ (U : State) (cA : ClassId), va_RA U cA ty → U.vm.findClass ("[" ++ ty.toString) = some cA) (harr : Cond.arrayClass (newarray.typeOf atype) ∈ fmWs) (ha : ∀ cA : ClassId, vp_cell cA a0 = arrV cA N (fun _ => defaultValue ty)) (hn : ¬ n < 0) (hN : n.toNatClampNeg = N) (hbytes : N * componentBytes ty ≤ 536870912) (hc : cu + 1 ≤ mc) (hs : su + N ≤ ms) (hdg : decode y.2.1 pc = .ok (.newarray atype, 2))
    (kk : ∀ q : Nat, lwEv l G d mc ms y (pc + 2) L (.ref q :: st) (ws ++ [(q, .inl (G.2.2.1 t, a0))]) (cu + 1) (su + N) Q) : lwEv l G d mc ms y pc L (.int n :: st) ws cu su Q := by
  intro p e s m args below meth c H locs A ls hF hE hA hP hS hL
  have hts := hF.2.2.2.2.2.1
  have ok : ∀ w ∈ fmWs, w.before args s = true := fun w h => hts w (List.mem_cons_of_mem _ h)
  refine va_newa hF.1 hF.2.1 (ok _ harr) hty hE.1.1 hP.1 hP.2 hS hA ha hn hN hbytes hc hs hdg (fun q cA H1 hK1 hP1 hD1 hS1 => ?_)
  have e1 := hp s cA (hK1.2 6 (cA, ty) rfl).2
  have e2 := hp s (G.2.2.1 t) (hE.1.1.2 t _ (ht G)).2
  have e3 : cA = G.2.2.1 t := Option.some.inj (e1.symm.trans e2)
  subst e3
  exact kk q p e s m args below meth c H1 locs A ls hF hE hA ⟨hP1, hD1⟩ hS1 hL
/-- a new array of objects -/
theorem lw_newq {t idx N : Nat} {C : String} {n : Int32} (ht : ∀ g : fmG, (fmTys g)[t]? = some (g.2.2.1 t, .object C)) (hk : Cond.classLink y.1.cls idx C ∈ fmWs) (hover : ∀ (A : Nat → Prop) (s : State), lwEnv G A s → va_AO C s) (hn : ¬ n < 0) (hN : n.toNatClampNeg = N) (hbytes : N * 4 ≤ 536870912) (hc : cu + 1 ≤ mc) (hs : su + N ≤ ms) (hdg : decode y.2.1 pc = .ok (.anewarray idx, 3))
    (kk : ∀ q : Nat, lwEv l G d mc ms y (pc + 3) L (.ref q :: st) (ws ++ [(q, .inl (G.2.2.1 t, N, .inr (.inr (.inr (.inr (fun _ => none))))))]) (cu + 1) (su + N) Q) : lwEv l G d mc ms y pc L (.int n :: st) ws cu su Q := by
  intro p e s m args below meth c H locs A ls hF hE hA hP hS hL
  have hts := hF.2.2.2.2.2.1
  have ok : ∀ w ∈ fmWs, w.before args s = true := fun w h => hts w (List.mem_cons_of_mem _ h)
  refine va_newq hF.1 hF.2.1 hF.2.2.2.2.1 (ok _ hk) (hover A s hE) hE.1.1 hP.1 hP.2 hS hA hn hN hbytes hc hs hdg (fun q cA H1 hK1 hP1 hD1 hS1 => ?_)
  obtain ⟨_, _, _, _, _, e1⟩ := (hK1.2 6 (cA, .object C) rfl).2
  obtain ⟨_, _, _, _, _, e2⟩ := (hE.1.1.2 t _ (ht G)).2
  have e3 : cA = G.2.2.1 t := Option.some.inj (e1.symm.trans e2)
  subst e3
  exact kk q p e s m args below meth c H1 locs A ls hF hE hA ⟨hP1, hD1⟩ hS1 hL
/-- a constructor called -/
theorem lw_init {d' mc' ms' idx n a : Nat} {y' : fmY} {As st0 : List Value} (hc : fmCb y.1.cls idx y' n) (hm : Cond.instanceMethod y'.1 ∈ fmWs) (hni : y'.1.name = "<init>") (hret : y'.2.2.2 = none) (hn : As.length = n) (hst0 : st0 = As.reverse ++ .ref a :: st) (hcat : (st.map fun v => v.category).sum ≤ 8) (hd : d' + 1 ≤ d) (h1 : cu + mc' ≤ mc) (h2 : su + ms' ≤ ms) (hdg : decode y.2.1 pc = .ok (.invokespecial idx, 3))
    (hg : lwGood l G d' mc' ms' y' (.ref a :: As) ws (fun ws' => lwEv l G d mc ms y (pc + 3) L st ws' (cu + mc') (su + ms') Q)) : lwEv l G d mc ms y pc L st0 ws cu su Q := by
  subst hst0
  intro p e s m args below meth c H locs A ls hF hE hA hP hS hL
  have hts := hF.2.2.2.2.2.1
  have ok : ∀ w ∈ fmWs, w.before args s = true := fun w h => hts w (List.mem_cons_of_mem _ h)
  have hcb : CallB (lwRm d mc ms) s args y.1.cls idx y'.1 y'.2.1 y'.2.2.1 none (fmWy y') (lwRm d' mc' ms') mc' ms' n := by
    rw [← hret]
    refine callB_of (Ts := fmWy y) n hts ?_ rfl rfl rfl (ok _ hc.2.1) (ok _ hc.1) hc.2.2.2.1 ⟨?_, ?_⟩
    · intro w hw
      rcases List.mem_cons.mp hw with e | h
      · rw [e]; exact ⟨List.mem_cons_of_mem _ hc.2.2.1, good_of_word (fmWs_good hc.2.2.1)⟩
      · exact ⟨List.mem_cons_of_mem _ h, good_of_word (fmWs_good h)⟩
    · show d' + 10 + 1 ≤ d + 10; omega
    · have := hc.2.2.2.2
      show 8 + (y'.2.2.1 + 11) + (60 * d' + 200) ≤ 60 * d + 200; omega
  refine va_callv (va_runI (As := As) (rest := st) ⟨hF.1, hF.2.1, hF.2.2.1, hF.2.2.2.2.1, hts⟩ (hg A) ⟨hcb, hni, ok _ hm⟩ ⟨lwPc.blind, fun U hU hW => ⟨rfl, hE.warm hS hU hW, fun q h => hA q (Nat.le_trans hS.1 (by rw [← hU]; exact h)), by rw [hU]; exact hP⟩⟩ rfl hn hL.1 rfl (lv_room hcat) hdg ⟨h1, h2⟩) hS (fun _ _ h => h) (fun _ h => h) (fun ws' t H1 locs1 ht hvm hq hB hz hk hS1 => ?_)
  rw [ht] at hB
  exact hq p e s m args below meth c H1 locs1 A ls hF hE hA hB hS1 hL
end LwRows
