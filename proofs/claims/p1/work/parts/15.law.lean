/-! THE CLAIM OUT OF ONE WALK OF THE LAW'S BODY. Your part is whole_start (and what it stands on); all else here is the same for every law, but numbers. -/
def R_law : String := "LifeDrawerLaw"
def lw_P (b : Addr) (xs : List Int32) (args : Array Value) (s : State) : Prop := args = #[.ref b] ∧ s.IntsAt b xs ∧ xs.length ≤ 7 ∧ (Jvm.Cond.and given_1 narrow_1).before args s = true
def lw_Q (_ : Array Value) (s : State) (o : Outcome) (t : State) : Prop := o = .returned (some (.int 1)) ∧ Framed s o t [] 600002 7302232
def lw_Z (below : List Frame) (a : Array Value) (s : State) : State → Prop := fun t => ∃ o, t.status = .running ∧ Ended t below o ∧ lw_Q a s o t
/-- the law's own end, with 1 on the stack, nothing written that was there before, its room as the claim has it -/
theorem lw_ret {p : Program} {l : Launch} {e : Env} {s : State} {m : MethodId} {below : List Frame} {meth : Method} {c : Code} {b : Nat} (hx : p.tables.exec = Jvm.exec) (hb : c.code = code) (hr : meth.sig.returnType = ret) (hlocks : meth.locks = false) {pc : Nat} {H : Heap} {ls : Array Slot} (hdg : decode code pc = .ok (.ireturn, 1)) : W p l e room_1 s m #[Value.ref b] below meth c H [] 600002 7302232 (lw_Z below #[Value.ref b] s) (F0 m pc ls [.int 1]) := by
  intro T hT X
  obtain ⟨fs, hret, hrun, hended, hW, hframe⟩ := X.leave (v := some (.int 1)) (hlocks := hlocks) (fun h => by rw [hr] at h; cases h)
  have hmeth' : T.vm.method? m = some meth := X.method'
  refine ⟨T.setFrames fs, ?_, .returned (some (.int 1)), hrun, hended, rfl, ⟨_, rfl⟩, hW, hframe⟩
  jvm_step X.here [X.here.top, hx, hb, hdg, hmeth', hr, ret, narrow_b1]
  (try refine ⟨rfl, ?_⟩); (try refine ⟨rfl, ?_⟩)
  first | (intro acts; rw [hret _ acts rfl rfl rfl]) | rw [hret _ _ rfl rfl rfl]
  exact Steps.refl _
/-- what holds at the law's entry: the machine, the code, the tables' words (any of lw_tbl by 'hts w (by decide +kernel)'), the script of L ints xs at the cell b, what the Statement gives of the start (any of its parts by flat_of_before) -/
def lw_At (p : Program) (s : State) (m : MethodId) (meth : Method) (c : Code) (b L : Nat) (xs : Nat → Int32) : Prop :=
  p.tables.exec = Jvm.exec ∧ c.code = code ∧ meth.sig.returnType = ret ∧ c.maxLocals = 8 ∧ s.vm.findClass R_law = some m.cls ∧ (∀ w ∈ lw_tbl, w.before #[Value.ref b] s = true) ∧ va_X b L xs s s.heap ∧ b < s.heap.size ∧ meth.locks = false ∧ (Jvm.Cond.and given_1 narrow_1).before #[Value.ref b] s = true
/-- the law at work on a script of n ints -/
def laC (p : Program) (l : Launch) (s : State) (m : MethodId) (meth : Method) (c : Code) (G : fmG) (b n : Nat) (xs : Nat → Int32) : Prop := zFix p s m #[.ref b] c "LifeDrawerLaw" cL_law_ 8 G (fun q => s.heap.size ≤ q) ∧ va_X b n xs s s.heap ∧ b < s.heap.size ∧ meth.sig.returnType = ret ∧ meth.locks = false ∧ l.stackTraces = false
theorem rm_fr {d : Nat} (h : d ≤ 12) : d + 10 + 1 ≤ room_1.frames := by show d + 10 + 1 ≤ 2048; omega
theorem rm_lo {d k : Nat} (h : d ≤ 12) (hk : k ≤ 60) : 8 + (k + 11) + (60 * d + 200) ≤ room_1.locals := by show _ ≤ 84000; omega
theorem rm_c {k : Nat} (h : k + 1 ≤ 600002) : k + 1 ≤ room_1.cells := h
theorem rm_s {k : Nat} (h : k + 6 ≤ 7302232) : k + 6 ≤ room_1.slots := h
theorem lg_cmp_self (x : Int64) : lg_cmp x x = 0 := by simp [lg_cmp]
theorem wperm {α : Type} (x : α) (u v : List α) : (u ++ (x :: v)).Perm (v ++ (u ++ [x])) := by
  apply fm_sums
  intro f
  simp only [List.map_append, List.map_cons, List.map_nil, List.sum_append, List.sum_cons, List.sum_nil]; omega
section LaRows
variable {p : Program} {l : Launch} {e : Env} {s : State} {m : MethodId} {below : List Frame} {meth : Method} {c : Code} {G : fmG} {b n : Nat} {xs : Nat → Int32} {pc : Nat} {L : List (Option Value)} {st : List Value} {ws : va_W} {cu su : Nat}
theorem la_len (C : laC p l s m meth c G b n xs) (hdg : decode cL_law_ pc = .ok (.arraylength, 1)) (k : zEv p l e room_1 s m #[.ref b] below meth c G (fun q => s.heap.size ≤ q) 8 (lw_Z below #[.ref b] s) (pc + 1) L (.int (Int32.ofNat n) :: st) ws cu su) : zEv p l e room_1 s m #[.ref b] below meth c G (fun q => s.heap.size ≤ q) 8 (lw_Z below #[.ref b] s) pc L (.ref b :: st) ws cu su := by
  intro H locs ls hP hS hL
  exact va_slen C.1.1 C.1.2.1 C.2.1 C.2.2.1 (Nat.not_le.mpr C.2.2.1) hS hdg (k H locs ls hP hS hL)
theorem la_sld (C : laC p l s m meth c G b n xs) {i : Int32} (hin : vp_in i n) (hdg : decode cL_law_ pc = .ok (.iaload, 1)) (k : zEv p l e room_1 s m #[.ref b] below meth c G (fun q => s.heap.size ≤ q) 8 (lw_Z below #[.ref b] s) (pc + 1) L (.int (xs i.toNatClampNeg) :: st) ws cu su) : zEv p l e room_1 s m #[.ref b] below meth c G (fun q => s.heap.size ≤ q) 8 (lw_Z below #[.ref b] s) pc L (.int i :: .ref b :: st) ws cu su := by
  intro H locs ls hP hS hL
  exact va_sld C.1.1 C.1.2.1 C.2.1 C.2.2.1 (Nat.not_le.mpr C.2.2.1) hS hin hdg (k H locs ls hP hS hL)
/-- script[i + k] at i = 0 -/
theorem la_arg (C : laC p l s m meth c G b n xs) (k : Nat) {v : Int32} (h0 : L[0]? = some (some (.ref b))) (h4 : L[4]? = some (some (.int 0))) (hin : vp_in (0 + v) n) (hk : (0 + v).toNatClampNeg = k) {v9 : Int} (hv : Int32.ofInt v9 = v)
    (d0 : decode cL_law_ pc = .ok (.aload_n 0, 1)) (d1 : decode cL_law_ (pc + 1) = .ok (.iload 4, 2)) (d3 : decode cL_law_ (pc + 1 + 2) = .ok (.iconst v9, 1)) (d4 : decode cL_law_ (pc + 1 + 2 + 1) = .ok (.iadd, 1)) (d5 : decode cL_law_ (pc + 1 + 2 + 1 + 1) = .ok (.iaload, 1)) (kk : zEv p l e room_1 s m #[.ref b] below meth c G (fun q => s.heap.size ≤ q) 8 (lw_Z below #[.ref b] s) (pc + 1 + 2 + 1 + 1 + 1) L (.int (xs k) :: st) ws cu su) : zEv p l e room_1 s m #[.ref b] below meth c G (fun q => s.heap.size ≤ q) 8 (lw_Z below #[.ref b] s) pc L st ws cu su := by
  refine z_aloadn C.1 (n := 0) 0 rfl h0 d0 ?_
  refine z_iload C.1 h4 d1 ?_
  refine z_iconst C.1 (v := v) hv d3 ?_
  refine z_iadd C.1 d4 ?_
  refine la_sld C hin d5 ?_
  rw [hk]
  exact kk
theorem la_arg6 (C : laC p l s m meth c G b n xs) (k : Nat) {v : Int32} (h0 : L[0]? = some (some (.ref b))) (h4 : L[4]? = some (some (.int 0))) (hin : vp_in (0 + v) n) (hk : (0 + v).toNatClampNeg = k) {v9 : Int} (hv : (Int8.ofInt v9).toInt32 = v)
    (d0 : decode cL_law_ pc = .ok (.aload_n 0, 1)) (d1 : decode cL_law_ (pc + 1) = .ok (.iload 4, 2)) (d3 : decode cL_law_ (pc + 1 + 2) = .ok (.bipush v9, 2)) (d4 : decode cL_law_ (pc + 1 + 2 + 2) = .ok (.iadd, 1)) (d5 : decode cL_law_ (pc + 1 + 2 + 2 + 1) = .ok (.iaload, 1)) (kk : zEv p l e room_1 s m #[.ref b] below meth c G (fun q => s.heap.size ≤ q) 8 (lw_Z below #[.ref b] s) (pc + 1 + 2 + 2 + 1 + 1) L (.int (xs k) :: st) ws cu su) : zEv p l e room_1 s m #[.ref b] below meth c G (fun q => s.heap.size ≤ q) 8 (lw_Z below #[.ref b] s) pc L st ws cu su := by
  refine z_aloadn C.1 (n := 0) 0 rfl h0 d0 ?_
  refine z_iload C.1 h4 d1 ?_
  refine z_bipush C.1 (v := v) hv d3 ?_
  refine z_iadd C.1 d4 ?_
  refine la_sld C hin d5 ?_
  rw [hk]
  exact kk
theorem la_true (C : laC p l s m meth c G b n xs) (hc : cu ≤ 600002) (hs : su ≤ 7302232) : zEv p l e room_1 s m #[.ref b] below meth c G (fun q => s.heap.size ≤ q) 8 (lw_Z below #[.ref b] s) 2860 L [] ws cu su := by
  refine z_iconst C.1 (pc := 2860) (v := 1) (by decide) (fm_dec dtLa_58 20 rfl) ?_
  refine z_more hc hs ?_
  intro H locs ls hP hS hL
  exact va_forget (fun q hq => hS.2.2 q hq) (lw_ret C.1.1 C.1.2.1 C.2.2.2.1 C.2.2.2.2.1 (fm_dec dtLa_58 21 rfl))
/-- the end of a case: i becomes 7, the loop ends -/
theorem la_end (C : laC p l s m meth c G b 7 xs) {k1 k2 k3 k5 k6 k7 : Option Value} (hno : fmNo2 [some (.ref b), k1, k2, k3, some (.int 0), k5, k6, k7] 4 = true) (hc : cu ≤ 600002) (hs : su ≤ 7302232) : zEv p l e room_1 s m #[.ref b] below meth c G (fun q => s.heap.size ≤ q) 8 (lw_Z below #[.ref b] s) 2854 [some (.ref b), k1, k2, k3, some (.int 0), k5, k6, k7] [] ws cu su := by
  refine z_iincc C.1 (pc := 2854) 4 7 (by decide) rfl (by decide) hno (fm_dec dtLa_58 18 rfl) ?_
  dsimp only [List.set_cons_zero, List.set_cons_succ]
  refine z_goto C.1 (pc := 2857) 23 (by decide) (fm_dec dtLa_58 19 rfl) ?_
  refine z_iload C.1 (pc := 23) (i := 4) rfl (fm_dec dtLa_0 13 rfl) ?_
  refine z_aloadn C.1 (pc := 25) (n := 0) 0 rfl rfl (fm_dec dtLa_0 14 rfl) ?_
  refine la_len C (pc := 26) (fm_dec dtLa_0 15 rfl) ?_
  refine z_bipush C.1 (pc := 27) (v := 7) (by decide) (fm_dec dtLa_0 16 rfl) ?_
  refine z_isub C.1 (pc := 29) (fm_dec dtLa_0 17 rfl) ?_
  refine z_icmp_gt C.1 (pc := 30) 2860 (by decide) (fm_dec dtLa_0 18 rfl) (fun _ => ?_) (fun h => absurd (show Int32.ofNat 7 - 7 < 0 + 7 by decide) h)
  exact la_true C hc hs

set_option maxRecDepth 20000 in
theorem la_tailI (C : laC p l s m meth c G b 7 xs) (hc : cu + 1 ≤ 600002) (hs : su + 6 ≤ 7302232) {k1 k7 : Option Value} {g2 : Nat → Nat} {M2 : fmM} {u : va_W} {o : Nat} {f : Nat → Int64} {r kc : Int32} {bb v : Int32} (P : Prop) (hkc : kc ≠ 0) (h1 : P → r = 0 ∧ f 0 = v.toInt64) (h2 : ¬ P → r = kc) (h3 : P → M2.1 0 0 = 0 ∧ bb = v) (h4 : ¬ P → M2.1 0 0 = kc) (d0 : decode cL_law_ (pc + 0) = .ok (.aload_n 2, 1)) (d1 : decode cL_law_ (pc + 1) = .ok (.invokevirtual 136, 3)) (d4 : decode cL_law_ (pc + 4) = .ok (.iload 5, 2)) (d6 : decode cL_law_ (pc + 6) = .ok (.if_icmp .eq 5, 3)) (d11 : decode cL_law_ (pc + 11) = .ok (.iload 5, 2)) (d13 : decode cL_law_ (pc + 13) = .ok (.ifCond .ne 15, 3)) (d16 : decode cL_law_ (pc + 16) = .ok (.aload_n 3, 1)) (d17 : decode cL_law_ (pc + 17) = .ok (.iconst 0, 1)) (d18 : decode cL_law_ (pc + 18) = .ok (.laload, 1)) (d19 : decode cL_law_ (pc + 19) = .ok (.iload 6, 2)) (d21 : decode cL_law_ (pc + 21) = .ok (.i2l, 1)) (d22 : decode cL_law_ (pc + 22) = .ok (.lcmp, 1)) (d23 : decode cL_law_ (pc + 23) = .ok (.ifCond .eq 5, 3)) {og : Int} (hog : ((pc + 28 : Nat) : Int) + og = 2854) (d99 : decode cL_law_ (pc + 28) = .ok (.goto og, 3)) : zEv p l e room_1 s m #[.ref b] below meth c G (fun q => s.heap.size ≤ q) 8 (lw_Z below #[.ref b] s) (pc + 0) [some (.ref b), k1, some (.ref (g2 0)), some (.ref o), some (.int 0), some (.int r), some (.int bb), k7] [] (fmL Tm (g2, G.2) M2 ++ (u ++ [(o, .inl (G.2.2.1 1, 1, .inr (.inl f)))])) cu su := by
  refine z_aloadn C.1 (n := 2) 2 rfl rfl d0 ?_
  refine z_callX C.1 (T := Tm) (g := g2) (M := M2) (rest := u ++ [(o, .inl (G.2.2.1 1, 1, .inr (.inl f)))]) (k := 0) (ci := 11) (d' := 0) (pc := pc + 1) (As := []) (st := []) cvL_136 (by decide) rfl rfl rfl (by decide) (rm_fr (by decide)) (rm_lo (by decide) (by decide)) (rm_c hc) (rm_s hs) d1 ?_
  refine m_thrown C.2.2.2.2.2 ?_
  refine z_then1 ?_
  refine z_iload C.1 (pc := pc + 4) (i := 5) rfl d4 ?_
  have e : M2.1 0 0 = r := by
    by_cases hP : P
    · rw [(h3 hP).1, (h1 hP).1]
    · rw [h4 hP, h2 hP]
  refine z_icmp_eq C.1 (pc := pc + 6) (pc + 11) (by omega) d6 (fun _ => ?_) (fun h => absurd e h)
  refine z_iload C.1 (pc := pc + 11) (i := 5) rfl d11 ?_
  refine z_if_ne C.1 (pc := pc + 13) (pc + 28) (by omega) d13 (fun _ => ?_) (fun hr => ?_)
  · refine z_goto C.1 (pc := pc + 28) 2854 hog d99 ?_
    exact la_end C rfl (by omega) (by omega)
  · have hP : P := Classical.byContradiction (fun hn => hkc ((h2 hn).symm.trans hr))
    refine z_perm (List.Perm.of_eq (List.append_assoc _ _ _).symm) ?_
    refine z_aloadn C.1 (pc := pc + 16) (n := 3) 3 rfl rfl d16 ?_
    refine z_iconst C.1 (pc := pc + 17) (v := 0) (by decide) d17 ?_
    refine z_lald C.1 (pc := pc + 18) (w0 := fmL Tm (g2, G.2) M2 ++ u) (w1 := []) d18 ?_
    refine z_iload C.1 (pc := pc + 19) (i := 6) rfl d19 ?_
    refine z_i2l C.1 (pc := pc + 21) d21 ?_
    refine z_lcmp C.1 (pc := pc + 22) d22 ?_
    rw [(h1 hP).2, (h3 hP).2, lg_cmp_self]
    refine z_if_eq C.1 (pc := pc + 23) (pc + 28) (by omega) d23 (fun _ => ?_) (fun h => absurd rfl h)
    refine z_goto C.1 (pc := pc + 28) 2854 hog d99 ?_
    exact la_end C rfl (by omega) (by omega)
set_option maxRecDepth 20000 in
theorem la_tailJ (C : laC p l s m meth c G b 7 xs) (hc : cu + 1 ≤ 600002) (hs : su + 6 ≤ 7302232) {k1 : Option Value} {g2 : Nat → Nat} {M2 : fmM} {u : va_W} {o : Nat} {f : Nat → Int64} {r kc : Int32} {bb v : Int64} (P : Prop) (hkc : kc ≠ 0) (h1 : P → r = 0 ∧ f 0 = v) (h2 : ¬ P → r = kc) (h3 : P → M2.1 0 0 = 0 ∧ bb = v) (h4 : ¬ P → M2.1 0 0 = kc) (d0 : decode cL_law_ (pc + 0) = .ok (.aload_n 2, 1)) (d1 : decode cL_law_ (pc + 1) = .ok (.invokevirtual 136, 3)) (d4 : decode cL_law_ (pc + 4) = .ok (.iload 5, 2)) (d6 : decode cL_law_ (pc + 6) = .ok (.if_icmp .eq 5, 3)) (d11 : decode cL_law_ (pc + 11) = .ok (.iload 5, 2)) (d13 : decode cL_law_ (pc + 13) = .ok (.ifCond .ne 14, 3)) (d16 : decode cL_law_ (pc + 16) = .ok (.aload_n 3, 1)) (d17 : decode cL_law_ (pc + 17) = .ok (.iconst 0, 1)) (d18 : decode cL_law_ (pc + 18) = .ok (.laload, 1)) (d19 : decode cL_law_ (pc + 19) = .ok (.lload 6, 2)) (d21 : decode cL_law_ (pc + 21) = .ok (.lcmp, 1)) (d22 : decode cL_law_ (pc + 22) = .ok (.ifCond .eq 5, 3)) {og : Int} (hog : ((pc + 27 : Nat) : Int) + og = 2854) (d99 : decode cL_law_ (pc + 27) = .ok (.goto og, 3)) : zEv p l e room_1 s m #[.ref b] below meth c G (fun q => s.heap.size ≤ q) 8 (lw_Z below #[.ref b] s) (pc + 0) [some (.ref b), k1, some (.ref (g2 0)), some (.ref o), some (.int 0), some (.int r), some (.long bb), none] [] (fmL Tm (g2, G.2) M2 ++ (u ++ [(o, .inl (G.2.2.1 1, 1, .inr (.inl f)))])) cu su := by
  refine z_aloadn C.1 (n := 2) 2 rfl rfl d0 ?_
  refine z_callX C.1 (T := Tm) (g := g2) (M := M2) (rest := u ++ [(o, .inl (G.2.2.1 1, 1, .inr (.inl f)))]) (k := 0) (ci := 11) (d' := 0) (pc := pc + 1) (As := []) (st := []) cvL_136 (by decide) rfl rfl rfl (by decide) (rm_fr (by decide)) (rm_lo (by decide) (by decide)) (rm_c hc) (rm_s hs) d1 ?_
  refine m_thrown C.2.2.2.2.2 ?_
  refine z_then1 ?_
  refine z_iload C.1 (pc := pc + 4) (i := 5) rfl d4 ?_
  have e : M2.1 0 0 = r := by
    by_cases hP : P
    · rw [(h3 hP).1, (h1 hP).1]
    · rw [h4 hP, h2 hP]
  refine z_icmp_eq C.1 (pc := pc + 6) (pc + 11) (by omega) d6 (fun _ => ?_) (fun h => absurd e h)
  refine z_iload C.1 (pc := pc + 11) (i := 5) rfl d11 ?_
  refine z_if_ne C.1 (pc := pc + 13) (pc + 27) (by omega) d13 (fun _ => ?_) (fun hr => ?_)
  · refine z_goto C.1 (pc := pc + 27) 2854 hog d99 ?_
    exact la_end C rfl (by omega) (by omega)
  · have hP : P := Classical.byContradiction (fun hn => hkc ((h2 hn).symm.trans hr))
    refine z_perm (List.Perm.of_eq (List.append_assoc _ _ _).symm) ?_
    refine z_aloadn C.1 (pc := pc + 16) (n := 3) 3 rfl rfl d16 ?_
    refine z_iconst C.1 (pc := pc + 17) (v := 0) (by decide) d17 ?_
    refine z_lald C.1 (pc := pc + 18) (w0 := fmL Tm (g2, G.2) M2 ++ u) (w1 := []) d18 ?_
    refine z_lload C.1 (pc := pc + 19) (i := 6) rfl d19 ?_
    refine z_lcmp C.1 (pc := pc + 21) d21 ?_
    rw [(h1 hP).2, (h3 hP).2, lg_cmp_self]
    refine z_if_eq C.1 (pc := pc + 22) (pc + 27) (by omega) d22 (fun _ => ?_) (fun h => absurd rfl h)
    refine z_goto C.1 (pc := pc + 27) 2854 hog d99 ?_
    exact la_end C rfl (by omega) (by omega)
end LaRows
