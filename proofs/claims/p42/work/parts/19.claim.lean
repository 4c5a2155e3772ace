-- ===== YOUR PART BEGINS =====
set_option maxRecDepth 20000 in
theorem whole_start {p : Program} {e : Env} {s : State} {m : MethodId} {below : List Frame} {meth : Method} {c : Code} (l : Launch) (hst : l.stackTraces = false) {b L : Nat} {xs : Nat → Int32} (hL : L ≤ 3584) (C0 : lw_At p s m meth c b L xs) : W p l e room_1 s m #[Value.ref b] below meth c s.heap [] 0 0 (lw_Z below #[Value.ref b] s) (entryFrame m ([Value.ref b] : List Value).toArray 8) := by
  obtain ⟨hx, hb, hr, hml, hown, hts, hX, hbl, hlocks, hgv⟩ := id C0
  obtain ⟨G, hE⟩ := st_env hts hgv
  have C : laC p l s m meth c G b L xs := ⟨⟨hx, hb, hml, hown, fun w h => hts w (List.mem_filter.mp h).1, hE, fun _ h => h⟩, hX, hbl, hr, hlocks, hst⟩
  have hl0 := lv_entry ([.ref b]) (n := 8) (Nat.le_of_ble_eq_true rfl)
  rw [lg_entry_eq]
  generalize (lg_sl ([.ref b]) ++ List.replicate (8 - (lg_sl ([.ref b])).length) Slot.unset).toArray = ls at hl0 ⊢
  have hH : fmHas ls 8 [some (.ref b), none, none, none, none, none, none, none] := by
    refine ⟨hl0.1, hl0.2.1, fun i v hi => ?_⟩
    match i, hi with
    | 0, hi => cases hi; exact hl0.2.2 (0, .ref b) List.mem_cons_self
    | 1, hi => cases hi
    | 2, hi => cases hi
    | 3, hi => cases hi
    | 4, hi => cases hi
    | 5, hi => cases hi
    | 6, hi => cases hi
    | 7, hi => cases hi
    | i + 8, hi => simp at hi
  have Z : zEv p l e room_1 s m #[.ref b] below meth c G (fun q => s.heap.size ≤ q) 8 (lw_Z below #[.ref b] s) 0 [some (.ref b), none, none, none, none, none, none, none] [] [] 0 0 := by
    refine z_new C.1 (pc := 0) (ci := 10) (N := 17) (fs := [.null, .null, .null, .null, .null, .null, .null, .null, .null, .null, .null, .null, .null, .int 0, .int 0, .int 0, .int 0]) fk_10 rfl (fm_in 26 (by decide +kernel) rfl) (fm_in 27 (by decide +kernel) rfl) ni_X10 df_10 (show 0 + 1 ≤ 601024 by decide) (show 0 + 17 ≤ 7293034 by decide) (fm_dec dtLa_0 0 rfl) (fun q => ?_)
    refine z_dup C.1 (pc := 3) rfl (fm_dec dtLa_0 1 rfl) ?_
    refine z_init C.1 (y' := qX10_init) (d' := 2) (mc' := 189) (ms' := 5251) (pc := 4) (As := []) (st := [.ref q]) ⟨fm_in 28 (by decide +kernel) rfl, ni_X10, nc_X10_init, nd_X10_init, by decide⟩ nm_X10_init rfl rfl rfl rfl (Nat.le_of_ble_eq_true rfl) (rm_fr (by decide)) (rm_lo (by decide) (by decide)) (show 0 + 1 + 189 ≤ 601024 by decide) (show 0 + 17 + 5251 ≤ 7293034 by decide) (fm_dec dtLa_0 2 rfl) ?_
    refine k_X10_init hst (fun g M g0 hxf => ?_)
    subst g0
    refine z_astoren C.1 (pc := 7) (n := 1) 1 rfl (by decide) rfl (fm_dec dtLa_0 3 rfl) ?_
    dsimp only [List.set_cons_zero, List.set_cons_succ]
    refine z_new C.1 (pc := 8) (ci := 11) (N := 49) (fs := [.int 0, .int 0, .int 0, .int 0, .int 0, .int 0, .int 0, .int 0, .int 0, .null, .null, .null, .null, .null, .null, .null, .null, .int 0, .int 0, .null, .null, .null, .null, .null, .null, .null, .int 0, .null, .null, .null, .null, .int 0, .int 0, .int 0, .int 0, .int 0, .int 0, .int 0, .null, .null, .null, .null, .null, .long 0, .null, .null, .int 0, .int 0, .int 0]) fk_11 rfl (fm_in 1289 (by decide +kernel) rfl) (fm_in 1290 (by decide +kernel) rfl) ni_X11 df_11 (show 190 + 1 ≤ 601024 by decide) (show 5268 + 49 ≤ 7293034 by decide) (fm_dec dtLa_0 4 rfl) (fun q2 => ?_)
    refine z_dup C.1 (pc := 11) rfl (fm_dec dtLa_0 5 rfl) ?_
    refine z_init C.1 (y' := qX11_init) (d' := 2) (mc' := 521) (ms' := 12194) (pc := 12) (As := []) (st := [.ref q2]) ⟨fm_in 1291 (by decide +kernel) rfl, ni_X11, nc_X11_init, nd_X11_init, by decide⟩ nm_X11_init rfl rfl rfl rfl (Nat.le_of_ble_eq_true rfl) (rm_fr (by decide)) (rm_lo (by decide) (by decide)) (show 190 + 1 + 521 ≤ 601024 by decide) (show 5268 + 49 + 12194 ≤ 7293034 by decide) (fm_dec dtLa_0 6 rfl) ?_
    refine k_X11_init hst (fun g2 M2 g0 hmf => ?_)
    subst g0
    refine z_astoren C.1 (pc := 15) (n := 2) 2 rfl (by decide) rfl (fm_dec dtLa_0 7 rfl) ?_
    dsimp only [List.set_cons_zero, List.set_cons_succ]
    refine z_iconst C.1 (pc := 16) (v := 1) (by decide) (fm_dec dtLa_0 8 rfl) ?_
    refine z_newJ C.1 (pc := 17) (N := 1) (by decide) (by decide) (by decide) (show 712 + 1 ≤ 601024 by decide) (show 17511 + 1 ≤ 7293034 by decide) (fm_dec dtLa_0 9 rfl) (fun o => ?_)
    refine z_astoren C.1 (pc := 19) (n := 3) 3 rfl (by decide) rfl (fm_dec dtLa_0 10 rfl) ?_
    dsimp only [List.set_cons_zero, List.set_cons_succ]
    refine z_iconst C.1 (pc := 20) (v := 0) (by decide) (fm_dec dtLa_0 11 rfl) ?_
    refine z_istore C.1 (pc := 21) (i := 4) (by decide) rfl (fm_dec dtLa_0 12 rfl) ?_
    dsimp only [List.set_cons_zero, List.set_cons_succ]
    refine z_more (cu' := 1000) (su' := 30000) (show 712 + 1 ≤ 1000 by decide) (show 17511 + 1 ≤ 30000 by decide) ?_
    refine z_perm (ws' := fmL Tx (g, G.2) M ++ ((o, .inl (G.2.2.1 1, 1, .inr (.inl fun _ => 0))) :: fmL Tm (g2, G.2) M2)) (fm_sums _ _ (fun f9 => ?_)) ?_
    · simp only [List.map_append, List.map_cons, List.map_nil, List.sum_append, List.sum_cons, List.sum_nil]; omega
    rw [show fmL Tm (g2, G.2) M2 = fmL Tm (g2, G.2) (m9 M2) from fmL_9.symm]
    exact la_loop pAll C hL 513 0 M (m9 M2) _ (by decide) (pI_0 hxf hmf)
  exact Z s.heap [] ls ⟨fun k q h => by simp at h, ⟨fun i j p q h => by simp at h, fun k q h => by simp at h⟩⟩ va_S.rf hH
-- ===== YOUR PART ENDS =====
set_option maxHeartbeats 4000000 in
theorem lw_walk (l : Launch) (hst : l.stackTraces = false) (b : Addr) (xs : List Int32) : MetFree l x (headSpec (Jvm.Cond.code x code maxLocals ret :: tables_1) room_1) (lw_P b xs) (fun _ _ _ _ _ => True) lw_Q := by
  refine MetFree.of_bodyS (code := code) (maxLocals := maxLocals) (ret := ret) (by decide) ?_ ?_
  · intro args s m h hn
    obtain ⟨meth, c, h1, h2, h3, h4, h5, h6, -, -⟩ := Cond.code_spec hn (atoms_spec (ws := Jvm.Cond.code x code maxLocals ret :: tables_1) h _ List.mem_cons_self)
    exact ⟨meth, c, h1, h2, h3, h4, h5, h6⟩
  · intro p e s m args below meth c s₁ B hml0 hP _
    obtain ⟨rfl, hx, hbd, hgv⟩ := hP
    obtain ⟨scr, harrAt, hlist, hof, hsmall⟩ := hx
    obtain ⟨hcb, hkn, -, -⟩ := State.arrayAt?_spec harrAt
    have hown : s.vm.findClass R_law = some m.cls := findClass_of_methodNamed B.named
    have hts0 : ∀ c ∈ (Jvm.Cond.code x code maxLocals ret :: tables_1), c.before #[Value.ref b] s = true := atoms_spec (ws := Jvm.Cond.code x code maxLocals ret :: tables_1) B.pre
    have hts : ∀ w ∈ lw_tbl, w.before #[Value.ref b] s = true := k2_hts_sels lw_privs (fun w hw => hts0 w (List.mem_cons_of_mem _ hw)) lw_privs_ok
    have hml : c.maxLocals = 8 := B.maxLocals_eq (hts0 _ List.mem_cons_self)
    have X₀ : Stand p l e room_1 s m #[Value.ref b] below meth c s₁ [] 0 0 := Stand.of_body B
    have hh0 : s₁.heap = s.heap := by rw [B.state]; rfl
    have hsz : scr.slots.size = xs.length := by rw [← Array.length_toList, hlist, List.length_map]
    have hval : ∀ j : Nat, j < xs.length → scr.slots[j]? = some (.int (xs.getD j 0)) := fun j hj => by
      rw [← Array.getElem?_toList, hlist]
      simp [hj]
    have hbl : b < s.heap.size := (Array.getElem?_eq_some_iff.mp hcb).1
    have hX : va_X b xs.length (fun j => xs.getD j 0) s s.heap := ⟨scr, hcb, hof, hkn, hsz, hval⟩
    have K : W p l e room_1 s m #[Value.ref b] below meth c s₁.heap [] 0 0 (lw_Z below #[Value.ref b] s) (entryFrame m ([Value.ref b] : List Value).toArray 8) := by
      rw [hh0]
      exact whole_start l hst hbd ⟨B.exec, B.bytes, B.returns, hml, hown, hts, hX, hbl, B.notSynchronized, hgv⟩
    obtain ⟨t, a1, o, b1, b2, b3⟩ := K s₁ rfl X₀
    exact ⟨t, o, a1, b1, b2, b3⟩
theorem lw_pre_spec {args : Array Value} {s : State} (h : (Jvm.Cond.and given_1 narrow_1).before args s = true) (hr : rest_1_c.before args s = true) : ∃ (b : Addr) (xs : List Int32), lw_P b xs args s := by
  have hs := flat_of_before _ h
  have hq := flat_of_before _ hr
  have hc : (Cond.count 1).before args s = true := hs _ (by decide +kernel)
  have harr : (Cond.arrayOf (.arg 0) .int).before args s = true := hs _ (by decide +kernel)
  have hle : (Cond.le (.length (.arg 0)) (.int 3584)).before args s = true := hs _ (by decide +kernel)
  have hlen : (Cond.isInt (.length (.arg 0))).before args s = true := hq _ (by decide +kernel)
  have hall : (Cond.all (.arg 0) (.isInt (.elem (.arg 0) (.index 0)))).before args s = true := hq _ (by decide +kernel)
  obtain ⟨b, xs, hb, hx⟩ := State.ints_of_pre rfl harr hlen hall
  have hsm : xs.length < 2 ^ 31 := hx.choose_spec.2.2.2
  have hev : (Term.length (.arg 0)).eval args s none [] s = some (.int xs.length.toInt32) := hx.length_eval hb
  have hv := Cond.le_ints hev (show (Term.int 3584).eval args s none [] s = some (.int 3584) from rfl)
  have hd : xs.length.toInt32 ≤ 3584 := by
    simpa [Cond.before, Cond.holds, hv] using hle
  have hN : xs.length ≤ 3584 := (Int32.ofNat_le_ofNat hsm (by decide)).mp (show Int32.ofNat xs.length ≤ Int32.ofNat 3584 from hd)
  exact ⟨b, xs, Cond.one_arg hc (show args[0]? = some (.ref b) from hb), hx, hN, h⟩
theorem lw_comes (l : Launch) (hst : l.stackTraces = false) : Comes l x (Jvm.Cond.code x code maxLocals ret :: tables_1) room_1 (fun tb e args s => Calls_1 tb e args s ∧ rest_1 tb e args s ∧ Pre_1 tb e args s)
    (fun _ _ args s o t => lw_Q args s o t) := by
  intro p e ha hc hk s m args below hf hfit hheap happ hpre
  obtain ⟨b, xs, hP⟩ := lw_pre_spec hpre.2.2 hpre.2.1
  obtain ⟨k, o, h1, h2, h3, hQ⟩ := lw_walk l hst b xs p e ha hc hk s m args below hf ((Spec.applies_iff_loose hf).mp happ).1 hP trivial
  exact ⟨k, o, h1, h2, h3, hQ⟩
theorem lw_frame {s t : State} {o : Outcome} {args : Array Value} (h : Framed s o t [] 601024 7293034) :
    Framed s o t (fieldLocs frame_1_writes args s ++ arrayLocs frame_1_arrays args s ++ staticLocs frame_1_statics s) 601024 7293034 := h
theorem lw_limb (L : Cond) (hL : ∀ (args : Array Value) (s t : State), L.after args s (.returned (some (.int 1))) t = true) :
    ArmFor flags0 classFile x code maxLocals ret World_1 tables_1 room_1 Calls_1 rest_1 Pre_1
      (fun tb e a s o t => postC L tb e a s o t ∧ Framed s o t (fieldLocs frame_1_writes a s ++ arrayLocs frame_1_arrays a s ++ staticLocs frame_1_statics s) 601024 7293034) := by
  intro l hfl _ _ p e ha hc hk s m args below hf hfit hheap happ hpre
  obtain ⟨k, o, h1, h2, h3, rfl, hF⟩ := lw_comes l (by unfold Launch.stackTraces; rw [hfl]; decide) p e ha hc hk s m args below hf hfit hheap happ hpre
  exact ⟨k, _, h1, h2, h3, hL args s _, lw_frame hF⟩
theorem i_vc : Claimed_1_1 ∧ Claimed_1_2 := ⟨lw_limb limb_1_1 (fun args s t => by simp [limb_1_1, Cond.after, Cond.holds, Cond.value]), lw_limb limb_1_2 (fun args s t => Cond.after_iff.mpr (by
  first | (rw [show limb_1_2 = Cond.eq .result (.int 1) from rfl, Cond.eq_ints (x := 1) (y := 1) rfl rfl]; simp; done) | (simp [limb_1_2, Cond.value, Term.eval]; done)))⟩

