/-! THE CLAIM OUT OF ONE WALK OF THE LAW'S BODY. Your part is whole_start (and what it stands on); all else here is the same for every law, but numbers. -/
def R_law : String := "LifeDrawerLaw"
def lw_P (b : Addr) (xs : List Int32) (args : Array Value) (s : State) : Prop := args = #[.ref b] ∧ s.IntsAt b xs ∧ xs.length ≤ 3584 ∧ (Jvm.Cond.and given_1 narrow_1).before args s = true
def lw_Q (_ : Array Value) (s : State) (o : Outcome) (t : State) : Prop := o = .returned (some (.int 1)) ∧ Framed s o t [] 601024 7293034
def lw_Z (below : List Frame) (a : Array Value) (s : State) : State → Prop := fun t => ∃ o, t.status = .running ∧ Ended t below o ∧ lw_Q a s o t
/-- the law's own end, with 1 on the stack, nothing written that was there before, its room as the claim has it -/
theorem lw_ret {p : Program} {l : Launch} {e : Env} {s : State} {m : MethodId} {below : List Frame} {meth : Method} {c : Code} {b : Nat} (hx : p.tables.exec = Jvm.exec) (hb : c.code = code) (hr : meth.sig.returnType = ret) (hlocks : meth.locks = false) {pc : Nat} {H : Heap} {ls : Array Slot} (hdg : decode code pc = .ok (.ireturn, 1)) : W p l e room_1 s m #[Value.ref b] below meth c H [] 601024 7293034 (lw_Z below #[Value.ref b] s) (F0 m pc ls [.int 1]) := by
  intro T hT X
  obtain ⟨fs, hret, hrun, hended, hW, hframe⟩ := X.leave (v := some (.int 1)) (hlocks := hlocks) (fun h => by rw [hr] at h; cases h)
  have hmeth' : T.vm.method? m = some meth := X.method'
  refine ⟨T.setFrames fs, ?_, .returned (some (.int 1)), hrun, hended, rfl, ⟨_, rfl⟩, hW, hframe⟩
  jvm_step X.here [X.here.top, hx, hb, hdg, hmeth', hr, ret, narrow_b1]
  (try refine ⟨rfl, ?_⟩); (try refine ⟨rfl, ?_⟩)
  first | (intro acts; rw [hret _ acts rfl rfl rfl]) | rw [hret _ _ rfl rfl rfl]
  exact Steps.refl _
/-- what holds at the law's entry: the machine, the code, the tables' words (any of lw_tbl by 'hts w (by decide +kernel)'), the script of L ints xs at the cell b, what the Statement gives of the start (any of its parts by flat_of_before) -/
def lw_At (p : Program) (s : State) (m : MethodId) (meth : Method) (c : Code) (b L : Nat) (xs : Nat → Int32) : Prop :=
  p.tables.exec = Jvm.exec ∧ c.code = code ∧ meth.sig.returnType = ret ∧ c.maxLocals = 8 ∧ s.vm.findClass R_law = some m.cls ∧ (∀ w ∈ lw_tbl, w.before #[Value.ref b] s = true) ∧ va_X b L xs s s.heap ∧ b < s.heap.size ∧ meth.locks = false ∧ (Jvm.Cond.and given_1 narrow_1).before #[Value.ref b] s = true
/-- the law at work on a script of n ints -/
def laC (p : Program) (l : Launch) (s : State) (m : MethodId) (meth : Method) (c : Code) (G : fmG) (b n : Nat) (xs : Nat → Int32) : Prop := zFix p s m #[.ref b] c "LifeDrawerLaw" cL_law_ 8 G (fun q => s.heap.size ≤ q) ∧ va_X b n xs s s.heap ∧ b < s.heap.size ∧ meth.sig.returnType = ret ∧ meth.locks = false ∧ l.stackTraces = false
/-- i stands at the t-th int, and six more follow -/
def laI (n : Nat) (i : Int32) (t : Nat) : Prop := ∀ k : Nat, k < 7 → vp_in (i + Int32.ofNat k) n ∧ (i + Int32.ofNat k).toNatClampNeg = t + k
theorem rm_fr {d : Nat} (h : d ≤ 300) : d + 10 + 1 ≤ room_1.frames := by show d + 10 + 1 ≤ 2048; omega
theorem rm_lo {d k : Nat} (h : d ≤ 300) (hk : k ≤ 60) : 8 + (k + 11) + (60 * d + 200) ≤ room_1.locals := by show _ ≤ 84000; omega
theorem rm_c {k : Nat} (h : k + 1 ≤ 601024) : k + 1 ≤ room_1.cells := h
theorem rm_s {k : Nat} (h : k + 6 ≤ 7293034) : k + 6 ≤ room_1.slots := h
theorem lg_cmp_self (x : Int64) : lg_cmp x x = 0 := by simp [lg_cmp]
theorem wperm {α : Type} (x : α) (u v : List α) : (u ++ (x :: v)).Perm (v ++ (u ++ [x])) := by
  apply fm_sums
  intro f
  simp only [List.map_append, List.map_cons, List.map_nil, List.sum_append, List.sum_cons, List.sum_nil]; omega
theorem wpermW (x : Nat × va_E) (u v : va_W) : List.Perm (u ++ (x :: v) : va_W) (v ++ (u ++ [x]) : va_W) := wperm x u v
theorem wpermB (x : Nat × va_E) (u v : va_W) : List.Perm (v ++ (u ++ [x]) : va_W) (u ++ (x :: v) : va_W) := (wperm x u v).symm
section LaRows
variable {p : Program} {l : Launch} {e : Env} {s : State} {m : MethodId} {below : List Frame} {meth : Method} {c : Code} {G : fmG} {b n : Nat} {xs : Nat → Int32} {pc : Nat} {L : List (Option Value)} {st : List Value} {ws : va_W} {cu su : Nat}
theorem la_len (C : laC p l s m meth c G b n xs) (hdg : decode cL_law_ pc = .ok (.arraylength, 1)) (k : zEv p l e room_1 s m #[.ref b] below meth c G (fun q => s.heap.size ≤ q) 8 (lw_Z below #[.ref b] s) (pc + 1) L (.int (Int32.ofNat n) :: st) ws cu su) : zEv p l e room_1 s m #[.ref b] below meth c G (fun q => s.heap.size ≤ q) 8 (lw_Z below #[.ref b] s) pc L (.ref b :: st) ws cu su := by
  intro H locs ls hP hS hL
  exact va_slen C.1.1 C.1.2.1 C.2.1 C.2.2.1 (Nat.not_le.mpr C.2.2.1) hS hdg (k H locs ls hP hS hL)
theorem la_sld (C : laC p l s m meth c G b n xs) {i : Int32} (hin : vp_in i n) (hdg : decode cL_law_ pc = .ok (.iaload, 1)) (k : zEv p l e room_1 s m #[.ref b] below meth c G (fun q => s.heap.size ≤ q) 8 (lw_Z below #[.ref b] s) (pc + 1) L (.int (xs i.toNatClampNeg) :: st) ws cu su) : zEv p l e room_1 s m #[.ref b] below meth c G (fun q => s.heap.size ≤ q) 8 (lw_Z below #[.ref b] s) pc L (.int i :: .ref b :: st) ws cu su := by
  intro H locs ls hP hS hL
  exact va_sld C.1.1 C.1.2.1 C.2.1 C.2.2.1 (Nat.not_le.mpr C.2.2.1) hS hin hdg (k H locs ls hP hS hL)
theorem la_arg (C : laC p l s m meth c G b n xs) {i v : Int32} (a : Nat) (h0 : L[0]? = some (some (.ref b))) (h4 : L[4]? = some (some (.int i))) (hin : vp_in (i + v) n ∧ (i + v).toNatClampNeg = a) {v9 : Int} (hv : Int32.ofInt v9 = v)
    (d0 : decode cL_law_ pc = .ok (.aload_n 0, 1)) (d1 : decode cL_law_ (pc + 1) = .ok (.iload 4, 2)) (d3 : decode cL_law_ (pc + 1 + 2) = .ok (.iconst v9, 1)) (d4 : decode cL_law_ (pc + 1 + 2 + 1) = .ok (.iadd, 1)) (d5 : decode cL_law_ (pc + 1 + 2 + 1 + 1) = .ok (.iaload, 1)) (kk : zEv p l e room_1 s m #[.ref b] below meth c G (fun q => s.heap.size ≤ q) 8 (lw_Z below #[.ref b] s) (pc + 1 + 2 + 1 + 1 + 1) L (.int (xs a) :: st) ws cu su) : zEv p l e room_1 s m #[.ref b] below meth c G (fun q => s.heap.size ≤ q) 8 (lw_Z below #[.ref b] s) pc L st ws cu su := by
  refine z_aloadn C.1 (n := 0) 0 rfl h0 d0 ?_
  refine z_iload C.1 h4 d1 ?_
  refine z_iconst C.1 (v := v) hv d3 ?_
  refine z_iadd C.1 d4 ?_
  refine la_sld C hin.1 d5 ?_
  rw [hin.2]
  exact kk
theorem la_arg6 (C : laC p l s m meth c G b n xs) {i v : Int32} (a : Nat) (h0 : L[0]? = some (some (.ref b))) (h4 : L[4]? = some (some (.int i))) (hin : vp_in (i + v) n ∧ (i + v).toNatClampNeg = a) {v9 : Int} (hv : (Int8.ofInt v9).toInt32 = v)
    (d0 : decode cL_law_ pc = .ok (.aload_n 0, 1)) (d1 : decode cL_law_ (pc + 1) = .ok (.iload 4, 2)) (d3 : decode cL_law_ (pc + 1 + 2) = .ok (.bipush v9, 2)) (d4 : decode cL_law_ (pc + 1 + 2 + 2) = .ok (.iadd, 1)) (d5 : decode cL_law_ (pc + 1 + 2 + 2 + 1) = .ok (.iaload, 1)) (kk : zEv p l e room_1 s m #[.ref b] below meth c G (fun q => s.heap.size ≤ q) 8 (lw_Z below #[.ref b] s) (pc + 1 + 2 + 2 + 1 + 1) L (.int (xs a) :: st) ws cu su) : zEv p l e room_1 s m #[.ref b] below meth c G (fun q => s.heap.size ≤ q) 8 (lw_Z below #[.ref b] s) pc L st ws cu su := by
  refine z_aloadn C.1 (n := 0) 0 rfl h0 d0 ?_
  refine z_iload C.1 h4 d1 ?_
  refine z_bipush C.1 (v := v) hv d3 ?_
  refine z_iadd C.1 d4 ?_
  refine la_sld C hin.1 d5 ?_
  rw [hin.2]
  exact kk
theorem la_true (C : laC p l s m meth c G b n xs) (hc : cu ≤ 601024) (hs : su ≤ 7293034) : zEv p l e room_1 s m #[.ref b] below meth c G (fun q => s.heap.size ≤ q) 8 (lw_Z below #[.ref b] s) 1973 L [] ws cu su := by
  refine z_iconst C.1 (pc := 1973) (v := 1) (by decide) (fm_dec dtLa_40 25 rfl) ?_
  refine z_more hc hs ?_
  intro H locs ls hP hS hL
  exact va_forget (fun q hq => hS.2.2 q hq) (lw_ret C.1.1 C.1.2.1 C.2.2.2.1 C.2.2.2.2.1 (fm_dec dtLa_40 26 rfl))
/-- what stands in locals 5 to 7 is forgotten -/
theorem la_fgt {k0 k1 k2 k3 k4 k5 k6 k7 : Option Value} (k : zEv p l e room_1 s m #[.ref b] below meth c G (fun q => s.heap.size ≤ q) 8 (lw_Z below #[.ref b] s) pc [k0, k1, k2, k3, k4, none, none, none] st ws cu su) : zEv p l e room_1 s m #[.ref b] below meth c G (fun q => s.heap.size ≤ q) 8 (lw_Z below #[.ref b] s) pc [k0, k1, k2, k3, k4, k5, k6, k7] st ws cu su := by
  intro H locs ls hP hS hL
  refine k H locs ls hP hS ⟨hL.1, hL.2.1, fun i v hi => ?_⟩
  match i, hi with
  | 0, hi => exact hL.2.2 0 v hi
  | 1, hi => exact hL.2.2 1 v hi
  | 2, hi => exact hL.2.2 2 v hi
  | 3, hi => exact hL.2.2 3 v hi
  | 4, hi => exact hL.2.2 4 v hi
  | 5, hi => cases hi
  | 6, hi => cases hi
  | 7, hi => cases hi
  | i + 8, hi => simp at hi
/-- a call of the reference: it ends with a value -/
theorem la_ref (C : laC p l s m meth c G b n xs) {g2 : Nat → Nat} {M2 : fmM} {rest : va_W} {idx nn : Nat} {y' : fmY} {As st0 : List Value} {P : fmR → fmM → Prop} (hc : fmCv "LifeDrawerLaw" idx y' nn 11) (hpl : plainName y'.1.cls = true) (hn : As.length = nn) (hst0 : st0 = As.reverse ++ .ref (g2 0) :: st) (hcat : (st.map fun v => v.category).sum ≤ 8) (hml : y'.2.2.1 ≤ 60) (hcu : cu + 1 ≤ 601024) (hsu : su + 6 ≤ 7293034) (hdg : decode cL_law_ pc = .ok (.invokevirtual idx, 3)) (hAs : pvTs (g2, G.2) As = As) (hp : pvGood Tm 250 y' (.ref 0 :: As) M2 P)
    (kk : ∀ (r : fmR) (M' : fmM), P r M' → match pvTo (g2, G.2) r with
      | .inl v => zEv p l e room_1 s m #[.ref b] below meth c G (fun q => s.heap.size ≤ q) 8 (lw_Z below #[.ref b] s) (pc + 3) L (v.toList ++ st) (fmL Tm (g2, G.2) M' ++ rest) cu su
      | .inr E => False) : zEv p l e room_1 s m #[.ref b] below meth c G (fun q => s.heap.size ≤ q) 8 (lw_Z below #[.ref b] s) pc L st0 (fmL Tm (g2, G.2) M2 ++ rest) cu su := by
  refine z_callX C.1 (T := Tm) (g := g2) (M := M2) (rest := rest) (k := 0) (ci := 11) (d' := 250) (As := As) (st := st) hc (by decide) rfl hn hst0 hcat (rm_fr (by decide)) (rm_lo (by decide) hml) (rm_c hcu) (rm_s hsu) hdg ?_
  have h9 := pvGood.fm (G := (g2, G.2)) C.2.2.2.2.2 (by decide) hpl hp
  have e9 : pvTs (g2, G.2) (.ref 0 :: As) = .ref (g2 0) :: As := by
    show pvTr (g2, G.2) (.ref 0) :: pvTs (g2, G.2) As = _
    rw [hAs]
    rfl
  rw [e9] at h9
  refine fmGood.imp h9 (fun o' M' h => ?_)
  obtain ⟨r, rfl, h8⟩ := h
  have h7 := kk r M' h8
  rcases r with v | E
  · exact h7
  · exact False.elim h7

end LaRows
def mtI (ia ns : Int32) (r r2 : fmR) (M2 : fmM) : Prop := match r with
  | .inl v => M2.1 0 0 = 0 ∧ r2 = .inl v
  | .inr E => (E = fmIAE → M2.1 0 0 = ia) ∧ (E = fmNSE → M2.1 0 0 = ns)
def rkI (ia ns : Bool) (r : fmR) : Prop := (∃ v : Int32, r = .inl (some (.int v))) ∨ (ia = true ∧ r = .inr fmIAE) ∨ (ns = true ∧ r = .inr fmNSE)
def rkJ (ia ns : Bool) (r : fmR) : Prop := (∃ v : Int64, r = .inl (some (.long v))) ∨ (ia = true ∧ r = .inr fmIAE) ∨ (ns = true ∧ r = .inr fmNSE)
theorem c_thrown {M : fmM} {Q : fmR → fmM → Prop} (hq : Q (.inl (some (.int (M.1 0 0)))) M) : pvGood Tm 250 qX11_thrown [.ref 0] M Q := by
  refine pvGood.up (d := 0) ?_ (by decide)
  refine pvGood_of (Nat.le_of_ble_eq_true rfl) ?_
  show pvEv Tm 0 qX11_thrown 0 [some (.ref 0)] [] M Q
  refine pv_aloadn (pc := 0) (n := 0) 0 rfl rfl (fm_dec dtX11_thrown 0 rfl) ?_
  refine pv_getI (k := 0) (j := 0) (ci := 11) (pc := 1) pfl_X11_101 (by decide) rfl (by decide) (fm_dec dtX11_thrown 1 rfl) ?_
  exact pv_ireturn (pc := 4) rfl (fm_dec dtX11_thrown 2 rfl) hq
