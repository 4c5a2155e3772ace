section ZNew
variable {p : Program} {l : Launch} {e : Env} {R : Room} {s : State} {m : MethodId} {args : Array Value} {below : List Frame} {meth : Method} {c : Code} {own : String} {cc : ByteArray} {nL : Nat} {G : fmG} {A : Nat → Prop} {Z : State → Prop} {pc : Nat} {L : List (Option Value)} {st : List Value} {ws : va_W} {cu su : Nat}
theorem z_new (hF : zFix p s m args c own cc nL G A) {ci idx N : Nat} {r : vw_C} {fs : List Value} (hcl : fmCl ci r) (hN : r.2.2 = N) (hk : Cond.classLink own idx r.1 ∈ fmWs) (hin : Cond.instantiable r.1 r.2.2 ∈ fmWs) (hini : Cond.initialized r.1 ∈ fmWs) (hfs : ∀ j, j < N → defaultValue (fmTy ci j) = vp_V fs j) (hc : cu + 1 ≤ R.cells) (hs : su + N ≤ R.slots) (hdg : decode cc pc = .ok (.new idx, 3))
    (kk : ∀ q : Nat, zEv p l e R s m args below meth c G A nL Z (pc + 3) L (.ref q :: st) (ws ++ [(q, .inr (ci, fs))]) (cu + 1) (su + N)) : zEv p l e R s m args below meth c G A nL Z pc L st ws cu su := by
  subst hN
  intro H locs ls hP hS hL
  obtain ⟨hx, hb, hml, hown, hts, hE, hA⟩ := id hF
  refine va_new (C := r.1) (T := r.2.1) (N := r.2.2) hx hb hts hcl.2.1 (fmTy ci) hcl.2.2.1 hown (hts _ hk) (hts _ hin) (hts _ hini) hE.1.1 hP.1 hP.2 hS hA hcl.1 hfs hc hs hdg (fun q H1 hP1 hD1 hS1 => ?_)
  exact kk q H1 locs ls ⟨hP1, hD1⟩ hS1 hL
theorem z_init (hF : zFix p s m args c own cc nL G A) {d' mc' ms' idx n a : Nat} {y' : fmY} {As st0 : List Value} (hc : fmCb own idx y' n) (hm : Cond.instanceMethod y'.1 ∈ fmWs) (hni : y'.1.name = "<init>") (hret : y'.2.2.2 = none) (hn : As.length = n) (hst0 : st0 = As.reverse ++ .ref a :: st) (hcat : (st.map fun v => v.category).sum ≤ 8) (hfr : d' + 10 + 1 ≤ R.frames) (hlo : 8 + (y'.2.2.1 + 11) + (60 * d' + 200) ≤ R.locals) (h1 : cu + mc' ≤ R.cells) (h2 : su + ms' ≤ R.slots) (hdg : decode cc pc = .ok (.invokespecial idx, 3))
    (hg : lwGood l G d' mc' ms' y' (.ref a :: As) ws (fun ws' => zEv p l e R s m args below meth c G A nL Z (pc + 3) L st ws' (cu + mc') (su + ms'))) : zEv p l e R s m args below meth c G A nL Z pc L st0 ws cu su := by
  subst hst0
  intro H locs ls hP hS hL
  obtain ⟨hx, hb, hml, hown, hts, hE, hA⟩ := id hF
  have hcb : CallB R s args own idx y'.1 y'.2.1 y'.2.2.1 none (fmWy y') (lwRm d' mc' ms') mc' ms' n := by
    rw [← hret]
    refine callB_of (Ts := fmWs) n hts ?_ rfl rfl rfl (hts _ hc.2.1) (hts _ hc.1) hc.2.2.2.1 ⟨hfr, hlo⟩
    intro w hw
    rcases List.mem_cons.mp hw with e | h
    · rw [e]; exact ⟨hc.2.2.1, good_of_word (fmWs_good hc.2.2.1)⟩
    · exact ⟨h, good_of_word (fmWs_good h)⟩
  refine va_callv (va_runI (As := As) (rest := st) ⟨hx, hb, hml, hown, hts⟩ (hg A) ⟨hcb, hni, hts _ hm⟩ ⟨lwPc.blind, fun U hU hW => ⟨rfl, hE.warm hS hU hW, fun q h => hA q (Nat.le_trans hS.1 (by rw [← hU]; exact h)), by rw [hU]; exact hP⟩⟩ rfl hn hL.1 rfl (lv_room hcat) hdg ⟨h1, h2⟩) hS (fun _ _ h => h) (fun _ h => h) (fun ws' t H1 locs1 ht hvm hq hB hz hk hS1 => ?_)
  rw [ht] at hB
  exact hq H1 locs1 ls hB hS1 hL
theorem z_newJ (hF : zFix p s m args c own cc nL G A) {N : Nat} {n : Int32} (hn : ¬ n < 0) (hN : n.toNatClampNeg = N) (hb9 : N * 8 ≤ 536870912) (hc : cu + 1 ≤ R.cells) (hs : su + N ≤ R.slots) (hdg : decode cc pc = .ok (.newarray .long, 2))
    (kk : ∀ q : Nat, zEv p l e R s m args below meth c G A nL Z (pc + 2) L (.ref q :: st) (ws ++ [(q, .inl (G.2.2.1 1, N, .inr (.inl (fun _ => 0))))]) (cu + 1) (su + N)) : zEv p l e R s m args below meth c G A nL Z pc L (.int n :: st) ws cu su := by
  intro H locs ls hP hS hL
  obtain ⟨hx, hb, hml, hown, hts, hE, hA⟩ := id hF
  refine va_newa (atype := .long) (a0 := (N, .inr (.inl (fun _ => 0)))) hx hb (hts _ lw_al) rfl hE.1.1 hP.1 hP.2 hS hA (fun cA => by rw [vp_cell_l]; rfl) hn hN hb9 hc hs hdg (fun q cA H1 hK1 hP1 hD1 hS1 => ?_)
  have e1 : s.vm.findClass ("[" ++ FieldType.long.toString) = some cA := (hK1.2 6 (cA, .long) rfl).2
  have e2 : s.vm.findClass ("[" ++ FieldType.long.toString) = some (G.2.2.1 1) := (hE.1.1.2 1 _ rfl).2
  have e3 : cA = G.2.2.1 1 := Option.some.inj (e1.symm.trans e2)
  subst e3
  exact kk q H1 locs ls ⟨hP1, hD1⟩ hS1 hL
end ZNew
theorem and63 (x : Int32) : ∃ k, k < 64 ∧ x &&& 63 = nI k := by
  have h : vp_in (x &&& 63) 64 := by
    rw [vp_in_iff]
    have e : (x &&& 63).toBitVec.toNat = x.toBitVec.toNat &&& 63 := by
      rw [Int32.toBitVec_and, BitVec.toNat_and]; rfl
    have e2 : (x &&& 63).toBitVec.toNat ≤ 63 := by rw [e]; exact Nat.and_le_right
    have e3 : (x &&& 63).toInt = ((x &&& 63).toBitVec.toNat : Int) := by
      show (x &&& 63).toBitVec.toInt = _
      rw [BitVec.toInt_eq_toNat_of_lt (by omega)]
    rw [e3]
    omega
  obtain ⟨k, h1, h2⟩ := vp_in_of h (by decide)
  exact ⟨k, h1, h2⟩
def laAll (I : fmM → fmM → Prop) : Prop := laS_feed I ∧ laS_drawer I ∧ laS_law I ∧ laS_work I ∧ laS_page I ∧ laS_fault I ∧ laS_undo I ∧ laS_told I ∧ laS_life I ∧ laS_facts I ∧ laS_wrong I ∧ laS_would I ∧ laS_loss I ∧ laS_cost I ∧ laS_risk I ∧ laS_saves I ∧ laS_first I ∧ laS_lacking I ∧ laS_signed I ∧ laS_stale I ∧ laS_best I ∧ laS_bestIn I ∧ laS_often I ∧ laS_yearly I ∧ laS_brings I ∧ laS_says I ∧ laS_line I ∧ laS_room I ∧ laS_lines I ∧ laS_apart I ∧ laS_twins I ∧ laS_written I ∧ laS_whose I ∧ laS_ahead I ∧ laS_lives I ∧ laS_oldest I ∧ laS_chain I ∧ laS_due I ∧ laS_news I ∧ laS_expects I ∧ laS_worst I ∧ laS_years I ∧ laS_span I ∧ laS_image I ∧ laS_restore I ∧ laS_status I ∧ laS_count I
theorem sw_out : ∀ k, k < 64 → 47 ≤ k → fmTsw 40 1927 0 46 #[204, 277, 305, 333, 361, 389, 402, 415, 443, 483, 511, 539, 615, 643, 683, 711, 751, 764, 777, 790, 818, 885, 925, 965, 1029, 1119, 1195, 1259, 1299, 1351, 1391, 1404, 1432, 1445, 1485, 1537, 1550, 1590, 1630, 1658, 1710, 1723, 1775, 1851, 1864, 1877, 1902] (nI k) = 1967 := by decide
theorem la_at {n t : Nat} (hn : n ≤ 3584) (h : 7 * t + 7 ≤ n) : laI n (nI (7 * t)) (7 * t) := by
  intro k hk
  have e : nI (7 * t) + Int32.ofNat k = nI (7 * t + k) := by
    show Int32.ofNat (7 * t) + Int32.ofNat k = Int32.ofNat (7 * t + k)
    rw [Int32.ofNat_add]
  have e2 : (nI (7 * t + k)).toInt = ((7 * t + k : Nat) : Int) := nI_toInt (by omega)
  rw [e]
  exact ⟨vp_in_iff.mpr ⟨by omega, by omega⟩, i32_cl e2⟩
theorem la_7 (n : Nat) (h : n ≤ 3584) : (Int32.ofNat n - 7).toInt = (n : Int) - 7 := by
  have e1 : (Int32.ofNat n).toInt = (n : Int) := nI_toInt (by omega)
  have e7 : (7 : Int32).toInt = 7 := by decide
  rw [sc_sub (by omega) (by omega)]
  omega
theorem la_i7 (t : Nat) : nI (7 * t) + 7 = nI (7 * (t + 1)) := by
  show Int32.ofNat (7 * t) + Int32.ofNat 7 = Int32.ofNat (7 * (t + 1))
  rw [← Int32.ofNat_add, show 7 * t + 7 = 7 * (t + 1) by omega]
theorem la_inc {p : Program} {l : Launch} {e : Env} {s : State} {m : MethodId} {below : List Frame} {meth : Method} {c : Code} {G : fmG} {b n : Nat} {xs : Nat → Int32} (C : laC p l s m meth c G b n xs) {g g2 : Nat → Nat} {ws : va_W} {o t cu su : Nat} (k : zEv p l e room_1 s m #[.ref b] below meth c G (fun q => s.heap.size ≤ q) 8 (lw_Z below #[.ref b] s) 23 [some (.ref b), some (.ref (g 0)), some (.ref (g2 0)), some (.ref o), some (.int (nI (7 * (t + 1)))), none, none, none] [] ws cu su) : zEv p l e room_1 s m #[.ref b] below meth c G (fun q => s.heap.size ≤ q) 8 (lw_Z below #[.ref b] s) 1967 [some (.ref b), some (.ref (g 0)), some (.ref (g2 0)), some (.ref o), some (.int (nI (7 * t))), none, none, none] [] ws cu su := by
  refine z_iincc C.1 (pc := 1967) 4 7 (by decide) rfl (by decide) rfl (fm_dec dtLa_40 23 rfl) ?_
  dsimp only [List.set_cons_zero, List.set_cons_succ]
  rw [la_i7]
  exact z_goto C.1 (pc := 1970) 23 (by decide) (fm_dec dtLa_40 24 rfl) k
set_option maxRecDepth 20000 in
theorem la_loop {p : Program} {l : Launch} {e : Env} {s : State} {m : MethodId} {below : List Frame} {meth : Method} {c : Code} {G : fmG} {b n : Nat} {xs : Nat → Int32} {I : fmM → fmM → Prop} (hA : laAll I) (C : laC p l s m meth c G b n xs) (hn : n ≤ 3584) {g g2 : Nat → Nat} {o : Nat} : ∀ (q t : Nat) (M M2 : fmM) (f : Nat → Int64), t + q = 513 → I M M2 → zEv p l e room_1 s m #[.ref b] below meth c G (fun q => s.heap.size ≤ q) 8 (lw_Z below #[.ref b] s) 23 [some (.ref b), some (.ref (g 0)), some (.ref (g2 0)), some (.ref o), some (.int (nI (7 * t))), none, none, none] [] (fmL Tx (g, G.2) M ++ ((o, .inl (G.2.2.1 1, 1, .inr (.inl f))) :: fmL Tm (g2, G.2) M2)) (1000 + t) (30000 + 6 * t) := by
  obtain ⟨h0, h1, h2, h3, h4, h5, h6, h7, h8, h9, h10, h11, h12, h13, h14, h15, h16, h17, h18, h19, h20, h21, h22, h23, h24, h25, h26, h27, h28, h29, h30, h31, h32, h33, h34, h35, h36, h37, h38, h39, h40, h41, h42, h43, h44, h45, h46⟩ := hA
  intro q
  induction q with
  | zero =>
    intro t M M2 f ht hI
    have e7 := la_7 n hn
    have et : t ≤ 513 := by omega
    have ei : (nI (7 * t)).toInt = ((7 * t : Nat) : Int) := nI_toInt (by omega)
    refine z_iload C.1 (pc := 23) (i := 4) rfl (fm_dec dtLa_0 13 rfl) ?_
    refine z_aloadn C.1 (pc := 25) (n := 0) 0 rfl rfl (fm_dec dtLa_0 14 rfl) ?_
    refine la_len C (pc := 26) (fm_dec dtLa_0 15 rfl) ?_
    refine z_bipush C.1 (pc := 27) (v := 7) (by decide) (fm_dec dtLa_0 16 rfl) ?_
    refine z_isub C.1 (pc := 29) (fm_dec dtLa_0 17 rfl) ?_
    refine z_icmp_gt C.1 (pc := 30) 1973 (by decide) (fm_dec dtLa_0 18 rfl) (fun _ => ?_) (fun h => absurd (by rw [sc_lt]; omega) h)
    exact la_true C (by omega) (by omega)
  | succ q ih =>
    intro t M M2 f ht hI
    have e7 := la_7 n hn
    have et : t ≤ 513 := by omega
    have ei : (nI (7 * t)).toInt = ((7 * t : Nat) : Int) := nI_toInt (by omega)
    refine z_iload C.1 (pc := 23) (i := 4) rfl (fm_dec dtLa_0 13 rfl) ?_
    refine z_aloadn C.1 (pc := 25) (n := 0) 0 rfl rfl (fm_dec dtLa_0 14 rfl) ?_
    refine la_len C (pc := 26) (fm_dec dtLa_0 15 rfl) ?_
    refine z_bipush C.1 (pc := 27) (v := 7) (by decide) (fm_dec dtLa_0 16 rfl) ?_
    refine z_isub C.1 (pc := 29) (fm_dec dtLa_0 17 rfl) ?_
    refine z_icmp_gt C.1 (pc := 30) 1973 (by decide) (fm_dec dtLa_0 18 rfl) (fun _ => ?_) (fun h => ?_)
    · exact la_true C (by omega) (by omega)
    · rw [sc_lt] at h
      have h77 : 7 * t + 7 ≤ n := by omega
      have hi := la_at hn h77
      have hk : ∀ (M' : fmM) (f' : Nat → Int64) (M2' : fmM), I M' M2' → zEv p l e room_1 s m #[.ref b] below meth c G (fun q => s.heap.size ≤ q) 8 (lw_Z below #[.ref b] s) 1967 [some (.ref b), some (.ref (g 0)), some (.ref (g2 0)), some (.ref o), some (.int (nI (7 * t))), none, none, none] [] (fmL Tx (g, G.2) M' ++ ((o, .inl (G.2.2.1 1, 1, .inr (.inl f'))) :: fmL Tm (g2, G.2) M2')) (1000 + t + 1) (30000 + 6 * t + 6) := fun M' f' M2' h9 => la_inc C (ih (t + 1) M' M2' f' (by omega) h9)
      refine z_aloadn C.1 (pc := 33) (n := 0) 0 rfl rfl (fm_dec dtLa_0 19 rfl) ?_
      refine z_iload C.1 (pc := 34) (i := 4) rfl (fm_dec dtLa_0 20 rfl) ?_
      refine la_sld C (pc := 36) (vp_in_iff.mpr ⟨by omega, by omega⟩) (fm_dec dtLa_0 21 rfl) ?_
      refine z_bipush C.1 (pc := 37) (v := 63) (by decide) (fm_dec dtLa_0 22 rfl) ?_
      refine z_iand C.1 (pc := 39) (fm_dec dtLa_0 23 rfl) ?_
      obtain ⟨k, hk64, e⟩ := and63 (xs (nI (7 * t)).toNatClampNeg)
      rw [e]
      rcases (show k = 0 ∨ k = 1 ∨ k = 2 ∨ k = 3 ∨ k = 4 ∨ k = 5 ∨ k = 6 ∨ k = 7 ∨ k = 8 ∨ k = 9 ∨ k = 10 ∨ k = 11 ∨ k = 12 ∨ k = 13 ∨ k = 14 ∨ k = 15 ∨ k = 16 ∨ k = 17 ∨ k = 18 ∨ k = 19 ∨ k = 20 ∨ k = 21 ∨ k = 22 ∨ k = 23 ∨ k = 24 ∨ k = 25 ∨ k = 26 ∨ k = 27 ∨ k = 28 ∨ k = 29 ∨ k = 30 ∨ k = 31 ∨ k = 32 ∨ k = 33 ∨ k = 34 ∨ k = 35 ∨ k = 36 ∨ k = 37 ∨ k = 38 ∨ k = 39 ∨ k = 40 ∨ k = 41 ∨ k = 42 ∨ k = 43 ∨ k = 44 ∨ k = 45 ∨ k = 46 ∨ 47 ≤ k by omega) with rfl | rfl | rfl | rfl | rfl | rfl | rfl | rfl | rfl | rfl | rfl | rfl | rfl | rfl | rfl | rfl | rfl | rfl | rfl | rfl | rfl | rfl | rfl | rfl | rfl | rfl | rfl | rfl | rfl | rfl | rfl | rfl | rfl | rfl | rfl | rfl | rfl | rfl | rfl | rfl | rfl | rfl | rfl | rfl | rfl | rfl | rfl | h9
      · exact z_table C.1 (pc := 40) 244 (by decide) (by decide) (fm_dec dtLa_0 24 rfl) (la_c0 h0 C hi (by omega) (by omega) (by omega) (by omega) hI hk)
      · exact z_table C.1 (pc := 40) 317 (by decide) (by decide) (fm_dec dtLa_0 24 rfl) (la_c1 h1 C hi (by omega) (by omega) (by omega) (by omega) hI hk)
      · exact z_table C.1 (pc := 40) 345 (by decide) (by decide) (fm_dec dtLa_0 24 rfl) (la_c2 h2 C hi (by omega) (by omega) (by omega) (by omega) hI hk)
      · exact z_table C.1 (pc := 40) 373 (by decide) (by decide) (fm_dec dtLa_0 24 rfl) (la_c3 h3 C hi (by omega) (by omega) (by omega) (by omega) hI hk)
      · exact z_table C.1 (pc := 40) 401 (by decide) (by decide) (fm_dec dtLa_0 24 rfl) (la_c4 h4 C hi (by omega) (by omega) (by omega) (by omega) hI hk)
      · exact z_table C.1 (pc := 40) 429 (by decide) (by decide) (fm_dec dtLa_0 24 rfl) (la_c5 h5 C hi (by omega) (by omega) (by omega) (by omega) hI hk)
      · exact z_table C.1 (pc := 40) 442 (by decide) (by decide) (fm_dec dtLa_0 24 rfl) (la_c6 h6 C hi (by omega) (by omega) (by omega) (by omega) hI hk)
      · exact z_table C.1 (pc := 40) 455 (by decide) (by decide) (fm_dec dtLa_0 24 rfl) (la_c7 h7 C hi (by omega) (by omega) (by omega) (by omega) hI hk)
      · exact z_table C.1 (pc := 40) 483 (by decide) (by decide) (fm_dec dtLa_0 24 rfl) (la_c8 h8 C hi (by omega) (by omega) (by omega) (by omega) hI hk)
      · exact z_table C.1 (pc := 40) 523 (by decide) (by decide) (fm_dec dtLa_0 24 rfl) (la_c9 h9 C hi (by omega) (by omega) (by omega) (by omega) hI hk)
      · exact z_table C.1 (pc := 40) 551 (by decide) (by decide) (fm_dec dtLa_0 24 rfl) (la_c10 h10 C hi (by omega) (by omega) (by omega) (by omega) hI hk)
      · exact z_table C.1 (pc := 40) 579 (by decide) (by decide) (fm_dec dtLa_0 24 rfl) (la_c11 h11 C hi (by omega) (by omega) (by omega) (by omega) hI hk)
      · exact z_table C.1 (pc := 40) 655 (by decide) (by decide) (fm_dec dtLa_0 24 rfl) (la_c12 h12 C hi (by omega) (by omega) (by omega) (by omega) hI hk)
      · exact z_table C.1 (pc := 40) 683 (by decide) (by decide) (fm_dec dtLa_0 24 rfl) (la_c13 h13 C hi (by omega) (by omega) (by omega) (by omega) hI hk)
      · exact z_table C.1 (pc := 40) 723 (by decide) (by decide) (fm_dec dtLa_0 24 rfl) (la_c14 h14 C hi (by omega) (by omega) (by omega) (by omega) hI hk)
      · exact z_table C.1 (pc := 40) 751 (by decide) (by decide) (fm_dec dtLa_0 24 rfl) (la_c15 h15 C hi (by omega) (by omega) (by omega) (by omega) hI hk)
      · exact z_table C.1 (pc := 40) 791 (by decide) (by decide) (fm_dec dtLa_0 24 rfl) (la_c16 h16 C hi (by omega) (by omega) (by omega) (by omega) hI hk)
      · exact z_table C.1 (pc := 40) 804 (by decide) (by decide) (fm_dec dtLa_0 24 rfl) (la_c17 h17 C hi (by omega) (by omega) (by omega) (by omega) hI hk)
      · exact z_table C.1 (pc := 40) 817 (by decide) (by decide) (fm_dec dtLa_0 24 rfl) (la_c18 h18 C hi (by omega) (by omega) (by omega) (by omega) hI hk)
      · exact z_table C.1 (pc := 40) 830 (by decide) (by decide) (fm_dec dtLa_0 24 rfl) (la_c19 h19 C hi (by omega) (by omega) (by omega) (by omega) hI hk)
      · exact z_table C.1 (pc := 40) 858 (by decide) (by decide) (fm_dec dtLa_0 24 rfl) (la_c20 h20 C hi (by omega) (by omega) (by omega) (by omega) hI hk)
      · exact z_table C.1 (pc := 40) 925 (by decide) (by decide) (fm_dec dtLa_0 24 rfl) (la_c21 h21 C hi (by omega) (by omega) (by omega) (by omega) hI hk)
      · exact z_table C.1 (pc := 40) 965 (by decide) (by decide) (fm_dec dtLa_0 24 rfl) (la_c22 h22 C hi (by omega) (by omega) (by omega) (by omega) hI hk)
      · exact z_table C.1 (pc := 40) 1005 (by decide) (by decide) (fm_dec dtLa_0 24 rfl) (la_c23 h23 C hi (by omega) (by omega) (by omega) (by omega) hI hk)
      · exact z_table C.1 (pc := 40) 1069 (by decide) (by decide) (fm_dec dtLa_0 24 rfl) (la_c24 h24 C hi (by omega) (by omega) (by omega) (by omega) hI hk)
      · exact z_table C.1 (pc := 40) 1159 (by decide) (by decide) (fm_dec dtLa_0 24 rfl) (la_c25 h25 C hi (by omega) (by omega) (by omega) (by omega) hI hk)
      · exact z_table C.1 (pc := 40) 1235 (by decide) (by decide) (fm_dec dtLa_0 24 rfl) (la_c26 h26 C hi (by omega) (by omega) (by omega) (by omega) hI hk)
      · exact z_table C.1 (pc := 40) 1299 (by decide) (by decide) (fm_dec dtLa_0 24 rfl) (la_c27 h27 C hi (by omega) (by omega) (by omega) (by omega) hI hk)
      · exact z_table C.1 (pc := 40) 1339 (by decide) (by decide) (fm_dec dtLa_0 24 rfl) (la_c28 h28 C hi (by omega) (by omega) (by omega) (by omega) hI hk)
      · exact z_table C.1 (pc := 40) 1391 (by decide) (by decide) (fm_dec dtLa_0 24 rfl) (la_c29 h29 C hi (by omega) (by omega) (by omega) (by omega) hI hk)
      · exact z_table C.1 (pc := 40) 1431 (by decide) (by decide) (fm_dec dtLa_0 24 rfl) (la_c30 h30 C hi (by omega) (by omega) (by omega) (by omega) hI hk)
      · exact z_table C.1 (pc := 40) 1444 (by decide) (by decide) (fm_dec dtLa_0 24 rfl) (la_c31 h31 C hi (by omega) (by omega) (by omega) (by omega) hI hk)
      · exact z_table C.1 (pc := 40) 1472 (by decide) (by decide) (fm_dec dtLa_0 24 rfl) (la_c32 h32 C hi (by omega) (by omega) (by omega) (by omega) hI hk)
      · exact z_table C.1 (pc := 40) 1485 (by decide) (by decide) (fm_dec dtLa_0 24 rfl) (la_c33 h33 C hi (by omega) (by omega) (by omega) (by omega) hI hk)
      · exact z_table C.1 (pc := 40) 1525 (by decide) (by decide) (fm_dec dtLa_0 24 rfl) (la_c34 h34 C hi (by omega) (by omega) (by omega) (by omega) hI hk)
      · exact z_table C.1 (pc := 40) 1577 (by decide) (by decide) (fm_dec dtLa_0 24 rfl) (la_c35 h35 C hi (by omega) (by omega) (by omega) (by omega) hI hk)
      · exact z_table C.1 (pc := 40) 1590 (by decide) (by decide) (fm_dec dtLa_0 24 rfl) (la_c36 h36 C hi (by omega) (by omega) (by omega) (by omega) hI hk)
      · exact z_table C.1 (pc := 40) 1630 (by decide) (by decide) (fm_dec dtLa_0 24 rfl) (la_c37 h37 C hi (by omega) (by omega) (by omega) (by omega) hI hk)
      · exact z_table C.1 (pc := 40) 1670 (by decide) (by decide) (fm_dec dtLa_0 24 rfl) (la_c38 h38 C hi (by omega) (by omega) (by omega) (by omega) hI hk)
      · exact z_table C.1 (pc := 40) 1698 (by decide) (by decide) (fm_dec dtLa_0 24 rfl) (la_c39 h39 C hi (by omega) (by omega) (by omega) (by omega) hI hk)
      · exact z_table C.1 (pc := 40) 1750 (by decide) (by decide) (fm_dec dtLa_0 24 rfl) (la_c40 h40 C hi (by omega) (by omega) (by omega) (by omega) hI hk)
      · exact z_table C.1 (pc := 40) 1763 (by decide) (by decide) (fm_dec dtLa_0 24 rfl) (la_c41 h41 C hi (by omega) (by omega) (by omega) (by omega) hI hk)
      · exact z_table C.1 (pc := 40) 1815 (by decide) (by decide) (fm_dec dtLa_0 24 rfl) (la_c42 h42 C hi (by omega) (by omega) (by omega) (by omega) hI hk)
      · exact z_table C.1 (pc := 40) 1891 (by decide) (by decide) (fm_dec dtLa_0 24 rfl) (la_c43 h43 C hi (by omega) (by omega) (by omega) (by omega) hI hk)
      · exact z_table C.1 (pc := 40) 1904 (by decide) (by decide) (fm_dec dtLa_0 24 rfl) (la_c44 h44 C hi (by omega) (by omega) (by omega) (by omega) hI hk)
      · exact z_table C.1 (pc := 40) 1917 (by decide) (by decide) (fm_dec dtLa_0 24 rfl) (la_c45 h45 C hi (by omega) (by omega) (by omega) (by omega) hI hk)
      · exact z_table C.1 (pc := 40) 1942 (by decide) (by decide) (fm_dec dtLa_0 24 rfl) (la_c46 h46 C hi (by omega) (by omega) (by omega) (by omega) hI hk)
      · refine z_table C.1 (pc := 40) 1967 (by decide) (sw_out k hk64 h9) (fm_dec dtLa_0 24 rfl) ?_
        exact z_more (Nat.le_succ _) (Nat.le_add_right _ 6) (hk M f M2 hI)
