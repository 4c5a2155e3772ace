section ZNew
variable {p : Program} {l : Launch} {e : Env} {R : Room} {s : State} {m : MethodId} {args : Array Value} {below : List Frame} {meth : Method} {c : Code} {own : String} {cc : ByteArray} {nL : Nat} {G : fmG} {A : Nat → Prop} {Z : State → Prop} {pc : Nat} {L : List (Option Value)} {st : List Value} {ws : va_W} {cu su : Nat}
theorem z_new (hF : zFix p s m args c own cc nL G A) {ci idx N : Nat} {r : vw_C} {fs : List Value} (hcl : fmCl ci r) (hN : r.2.2 = N) (hk : Cond.classLink own idx r.1 ∈ fmWs) (hin : Cond.instantiable r.1 r.2.2 ∈ fmWs) (hini : Cond.initialized r.1 ∈ fmWs) (hfs : ∀ j, j < N → defaultValue (fmTy ci j) = vp_V fs j) (hc : cu + 1 ≤ R.cells) (hs : su + N ≤ R.slots) (hdg : decode cc pc = .ok (.new idx, 3))
    (kk : ∀ q : Nat, zEv p l e R s m args below meth c G A nL Z (pc + 3) L (.ref q :: st) (ws ++ [(q, .inr (ci, fs))]) (cu + 1) (su + N)) : zEv p l e R s m args below meth c G A nL Z pc L st ws cu su := by
  subst hN
  intro H locs ls hP hS hL
  obtain ⟨hx, hb, hml, hown, hts, hE, hA⟩ := id hF
  refine va_new (C := r.1) (T := r.2.1) (N := r.2.2) hx hb hts hcl.2.1 (fmTy ci) hcl.2.2.1 hown (hts _ hk) (hts _ hin) (hts _ hini) hE.1.1 hP.1 hP.2 hS hA hcl.1 hfs hc hs hdg (fun q H1 hP1 hD1 hS1 => ?_)
  exact kk q H1 locs ls ⟨hP1, hD1⟩ hS1 hL
theorem z_init (hF : zFix p s m args c own cc nL G A) {d' mc' ms' idx n a : Nat} {y' : fmY} {As st0 : List Value} (hc : fmCb own idx y' n) (hm : Cond.instanceMethod y'.1 ∈ fmWs) (hni : y'.1.name = "<init>") (hret : y'.2.2.2 = none) (hn : As.length = n) (hst0 : st0 = As.reverse ++ .ref a :: st) (hcat : (st.map fun v => v.category).sum ≤ 8) (hfr : d' + 10 + 1 ≤ R.frames) (hlo : 8 + (y'.2.2.1 + 11) + (60 * d' + 200) ≤ R.locals) (h1 : cu + mc' ≤ R.cells) (h2 : su + ms' ≤ R.slots) (hdg : decode cc pc = .ok (.invokespecial idx, 3))
    (hg : lwGood l G d' mc' ms' y' (.ref a :: As) ws (fun ws' => zEv p l e R s m args below meth c G A nL Z (pc + 3) L st ws' (cu + mc') (su + ms'))) : zEv p l e R s m args below meth c G A nL Z pc L st0 ws cu su := by
  subst hst0
  intro H locs ls hP hS hL
  obtain ⟨hx, hb, hml, hown, hts, hE, hA⟩ := id hF
  have hcb : CallB R s args own idx y'.1 y'.2.1 y'.2.2.1 none (fmWy y') (lwRm d' mc' ms') mc' ms' n := by
    rw [← hret]
    refine callB_of (Ts := fmWs) n hts ?_ rfl rfl rfl (hts _ hc.2.1) (hts _ hc.1) hc.2.2.2.1 ⟨hfr, hlo⟩
    intro w hw
    rcases List.mem_cons.mp hw with e | h
    · rw [e]; exact ⟨hc.2.2.1, good_of_word (fmWs_good hc.2.2.1)⟩
    · exact ⟨h, good_of_word (fmWs_good h)⟩
  refine va_callv (va_runI (As := As) (rest := st) ⟨hx, hb, hml, hown, hts⟩ (hg A) ⟨hcb, hni, hts _ hm⟩ ⟨lwPc.blind, fun U hU hW => ⟨rfl, hE.warm hS hU hW, fun q h => hA q (Nat.le_trans hS.1 (by rw [← hU]; exact h)), by rw [hU]; exact hP⟩⟩ rfl hn hL.1 rfl (lv_room hcat) hdg ⟨h1, h2⟩) hS (fun _ _ h => h) (fun _ h => h) (fun ws' t H1 locs1 ht hvm hq hB hz hk hS1 => ?_)
  rw [ht] at hB
  exact hq H1 locs1 ls hB hS1 hL
theorem z_newJ (hF : zFix p s m args c own cc nL G A) {N : Nat} {n : Int32} (hn : ¬ n < 0) (hN : n.toNatClampNeg = N) (hb9 : N * 8 ≤ 536870912) (hc : cu + 1 ≤ R.cells) (hs : su + N ≤ R.slots) (hdg : decode cc pc = .ok (.newarray .long, 2))
    (kk : ∀ q : Nat, zEv p l e R s m args below meth c G A nL Z (pc + 2) L (.ref q :: st) (ws ++ [(q, .inl (G.2.2.1 1, N, .inr (.inl (fun _ => 0))))]) (cu + 1) (su + N)) : zEv p l e R s m args below meth c G A nL Z pc L (.int n :: st) ws cu su := by
  intro H locs ls hP hS hL
  obtain ⟨hx, hb, hml, hown, hts, hE, hA⟩ := id hF
  refine va_newa (atype := .long) (a0 := (N, .inr (.inl (fun _ => 0)))) hx hb (hts _ lw_al) rfl hE.1.1 hP.1 hP.2 hS hA (fun cA => by rw [vp_cell_l]; rfl) hn hN hb9 hc hs hdg (fun q cA H1 hK1 hP1 hD1 hS1 => ?_)
  have e1 : s.vm.findClass ("[" ++ FieldType.long.toString) = some cA := (hK1.2 6 (cA, .long) rfl).2
  have e2 : s.vm.findClass ("[" ++ FieldType.long.toString) = some (G.2.2.1 1) := (hE.1.1.2 1 _ rfl).2
  have e3 : cA = G.2.2.1 1 := Option.some.inj (e1.symm.trans e2)
  subst e3
  exact kk q H1 locs ls ⟨hP1, hD1⟩ hS1 hL
end ZNew
theorem and63 (x : Int32) : ∃ k, k < 64 ∧ x &&& 63 = nI k := by
  have h : vp_in (x &&& 63) 64 := by
    rw [vp_in_iff]
    have e : (x &&& 63).toBitVec.toNat = x.toBitVec.toNat &&& 63 := by
      rw [Int32.toBitVec_and, BitVec.toNat_and]; rfl
    have e2 : (x &&& 63).toBitVec.toNat ≤ 63 := by rw [e]; exact Nat.and_le_right
    have e3 : (x &&& 63).toInt = ((x &&& 63).toBitVec.toNat : Int) := by
      show (x &&& 63).toBitVec.toInt = _
      rw [BitVec.toInt_eq_toNat_of_lt (by omega)]
    rw [e3]
    omega
  obtain ⟨k, h1, h2⟩ := vp_in_of h (by decide)
  exact ⟨k, h1, h2⟩
theorem len_short : ∀ n, n < 7 → Int32.ofNat n - 7 < 0 := by decide
theorem sw_out : ∀ k, k < 64 → 47 ≤ k → fmTsw 40 2814 0 46 #[204, 277, 333, 389, 445, 501, 514, 527, 583, 651, 707, 763, 867, 922, 989, 1044, 1111, 1124, 1137, 1150, 1206, 1273, 1341, 1409, 1500, 1618, 1722, 1814, 1882, 1962, 2030, 2043, 2098, 2111, 2178, 2257, 2270, 2338, 2406, 2462, 2541, 2554, 2634, 2738, 2751, 2764, 2789] (nI k) = 2854 := by decide
set_option maxRecDepth 20000 in
theorem la_sw {p : Program} {l : Launch} {e : Env} {s : State} {m : MethodId} {below : List Frame} {meth : Method} {c : Code} {G : fmG} {b : Nat} {xs : Nat → Int32} (C : laC p l s m meth c G b 7 xs) {g g2 : Nat → Nat} {M M2 : fmM} {o : Nat} (hx : xFresh M) (hm : mAll M2) : zEv p l e room_1 s m #[.ref b] below meth c G (fun q => s.heap.size ≤ q) 8 (lw_Z below #[.ref b] s) 33 [some (.ref b), some (.ref (g 0)), some (.ref (g2 0)), some (.ref o), some (.int 0), none, none, none] [] (fmL Tx (g, G.2) M ++ ((o, .inl (G.2.2.1 1, 1, .inr (.inl fun _ => 0))) :: fmL Tm (g2, G.2) M2)) 1000 30000 := by
  refine z_aloadn C.1 (pc := 33) (n := 0) 0 rfl rfl (fm_dec dtLa_0 19 rfl) ?_
  refine z_iload C.1 (pc := 34) (i := 4) rfl (fm_dec dtLa_0 20 rfl) ?_
  refine la_sld C (pc := 36) (fm_inl (by decide)) (fm_dec dtLa_0 21 rfl) ?_
  refine z_bipush C.1 (pc := 37) (v := 63) (by decide) (fm_dec dtLa_0 22 rfl) ?_
  refine z_iand C.1 (pc := 39) (fm_dec dtLa_0 23 rfl) ?_
  obtain ⟨k, hk, e⟩ := and63 (xs (0 : Int32).toNatClampNeg)
  rw [e]
  rcases (show k = 0 ∨ k = 1 ∨ k = 2 ∨ k = 3 ∨ k = 4 ∨ k = 5 ∨ k = 6 ∨ k = 7 ∨ k = 8 ∨ k = 9 ∨ k = 10 ∨ k = 11 ∨ k = 12 ∨ k = 13 ∨ k = 14 ∨ k = 15 ∨ k = 16 ∨ k = 17 ∨ k = 18 ∨ k = 19 ∨ k = 20 ∨ k = 21 ∨ k = 22 ∨ k = 23 ∨ k = 24 ∨ k = 25 ∨ k = 26 ∨ k = 27 ∨ k = 28 ∨ k = 29 ∨ k = 30 ∨ k = 31 ∨ k = 32 ∨ k = 33 ∨ k = 34 ∨ k = 35 ∨ k = 36 ∨ k = 37 ∨ k = 38 ∨ k = 39 ∨ k = 40 ∨ k = 41 ∨ k = 42 ∨ k = 43 ∨ k = 44 ∨ k = 45 ∨ k = 46 ∨ 47 ≤ k by omega) with rfl | rfl | rfl | rfl | rfl | rfl | rfl | rfl | rfl | rfl | rfl | rfl | rfl | rfl | rfl | rfl | rfl | rfl | rfl | rfl | rfl | rfl | rfl | rfl | rfl | rfl | rfl | rfl | rfl | rfl | rfl | rfl | rfl | rfl | rfl | rfl | rfl | rfl | rfl | rfl | rfl | rfl | rfl | rfl | rfl | rfl | rfl | h
  · exact z_table C.1 (pc := 40) 244 (by decide) (by decide) (fm_dec dtLa_0 24 rfl) (la_c0 C hx hm)
  · exact z_table C.1 (pc := 40) 317 (by decide) (by decide) (fm_dec dtLa_0 24 rfl) (la_c1 C hx hm)
  · exact z_table C.1 (pc := 40) 373 (by decide) (by decide) (fm_dec dtLa_0 24 rfl) (la_c2 C hx hm)
  · exact z_table C.1 (pc := 40) 429 (by decide) (by decide) (fm_dec dtLa_0 24 rfl) (la_c3 C hx hm)
  · exact z_table C.1 (pc := 40) 485 (by decide) (by decide) (fm_dec dtLa_0 24 rfl) (la_c4 C hx hm)
  · exact z_table C.1 (pc := 40) 541 (by decide) (by decide) (fm_dec dtLa_0 24 rfl) (la_c5 C hx hm)
  · exact z_table C.1 (pc := 40) 554 (by decide) (by decide) (fm_dec dtLa_0 24 rfl) (la_c6 C hx hm)
  · exact z_table C.1 (pc := 40) 567 (by decide) (by decide) (fm_dec dtLa_0 24 rfl) (la_c7 C hx hm)
  · exact z_table C.1 (pc := 40) 623 (by decide) (by decide) (fm_dec dtLa_0 24 rfl) (la_c8 C hx hm)
  · exact z_table C.1 (pc := 40) 691 (by decide) (by decide) (fm_dec dtLa_0 24 rfl) (la_c9 C hx hm)
  · exact z_table C.1 (pc := 40) 747 (by decide) (by decide) (fm_dec dtLa_0 24 rfl) (la_c10 C hx hm)
  · exact z_table C.1 (pc := 40) 803 (by decide) (by decide) (fm_dec dtLa_0 24 rfl) (la_c11 C hx hm)
  · exact z_table C.1 (pc := 40) 907 (by decide) (by decide) (fm_dec dtLa_0 24 rfl) (la_c12 C hx hm)
  · exact z_table C.1 (pc := 40) 962 (by decide) (by decide) (fm_dec dtLa_0 24 rfl) (la_c13 C hx hm)
  · exact z_table C.1 (pc := 40) 1029 (by decide) (by decide) (fm_dec dtLa_0 24 rfl) (la_c14 C hx hm)
  · exact z_table C.1 (pc := 40) 1084 (by decide) (by decide) (fm_dec dtLa_0 24 rfl) (la_c15 C hx hm)
  · exact z_table C.1 (pc := 40) 1151 (by decide) (by decide) (fm_dec dtLa_0 24 rfl) (la_c16 C hx hm)
  · exact z_table C.1 (pc := 40) 1164 (by decide) (by decide) (fm_dec dtLa_0 24 rfl) (la_c17 C hx hm)
  · exact z_table C.1 (pc := 40) 1177 (by decide) (by decide) (fm_dec dtLa_0 24 rfl) (la_c18 C hx hm)
  · exact z_table C.1 (pc := 40) 1190 (by decide) (by decide) (fm_dec dtLa_0 24 rfl) (la_c19 C hx hm)
  · exact z_table C.1 (pc := 40) 1246 (by decide) (by decide) (fm_dec dtLa_0 24 rfl) (la_c20 C hx hm)
  · exact z_table C.1 (pc := 40) 1313 (by decide) (by decide) (fm_dec dtLa_0 24 rfl) (la_c21 C hx hm)
  · exact z_table C.1 (pc := 40) 1381 (by decide) (by decide) (fm_dec dtLa_0 24 rfl) (la_c22 C hx hm)
  · exact z_table C.1 (pc := 40) 1449 (by decide) (by decide) (fm_dec dtLa_0 24 rfl) (la_c23 C hx hm)
  · exact z_table C.1 (pc := 40) 1540 (by decide) (by decide) (fm_dec dtLa_0 24 rfl) (la_c24 C hx hm)
  · exact z_table C.1 (pc := 40) 1658 (by decide) (by decide) (fm_dec dtLa_0 24 rfl) (la_c25 C hx hm)
  · exact z_table C.1 (pc := 40) 1762 (by decide) (by decide) (fm_dec dtLa_0 24 rfl) (la_c26 C hx hm)
  · exact z_table C.1 (pc := 40) 1854 (by decide) (by decide) (fm_dec dtLa_0 24 rfl) (la_c27 C hx hm)
  · exact z_table C.1 (pc := 40) 1922 (by decide) (by decide) (fm_dec dtLa_0 24 rfl) (la_c28 C hx hm)
  · exact z_table C.1 (pc := 40) 2002 (by decide) (by decide) (fm_dec dtLa_0 24 rfl) (la_c29 C hx hm)
  · exact z_table C.1 (pc := 40) 2070 (by decide) (by decide) (fm_dec dtLa_0 24 rfl) (la_c30 C hx hm)
  · exact z_table C.1 (pc := 40) 2083 (by decide) (by decide) (fm_dec dtLa_0 24 rfl) (la_c31 C hx hm)
  · exact z_table C.1 (pc := 40) 2138 (by decide) (by decide) (fm_dec dtLa_0 24 rfl) (la_c32 C hx hm)
  · exact z_table C.1 (pc := 40) 2151 (by decide) (by decide) (fm_dec dtLa_0 24 rfl) (la_c33 C hx hm)
  · exact z_table C.1 (pc := 40) 2218 (by decide) (by decide) (fm_dec dtLa_0 24 rfl) (la_c34 C hx hm)
  · exact z_table C.1 (pc := 40) 2297 (by decide) (by decide) (fm_dec dtLa_0 24 rfl) (la_c35 C hx hm)
  · exact z_table C.1 (pc := 40) 2310 (by decide) (by decide) (fm_dec dtLa_0 24 rfl) (la_c36 C hx hm)
  · exact z_table C.1 (pc := 40) 2378 (by decide) (by decide) (fm_dec dtLa_0 24 rfl) (la_c37 C hx hm)
  · exact z_table C.1 (pc := 40) 2446 (by decide) (by decide) (fm_dec dtLa_0 24 rfl) (la_c38 C hx hm)
  · exact z_table C.1 (pc := 40) 2502 (by decide) (by decide) (fm_dec dtLa_0 24 rfl) (la_c39 C hx hm)
  · exact z_table C.1 (pc := 40) 2581 (by decide) (by decide) (fm_dec dtLa_0 24 rfl) (la_c40 C hx hm)
  · exact z_table C.1 (pc := 40) 2594 (by decide) (by decide) (fm_dec dtLa_0 24 rfl) (la_c41 C hx hm)
  · exact z_table C.1 (pc := 40) 2674 (by decide) (by decide) (fm_dec dtLa_0 24 rfl) (la_c42 C hx hm)
  · exact z_table C.1 (pc := 40) 2778 (by decide) (by decide) (fm_dec dtLa_0 24 rfl) (la_c43 C hx hm)
  · exact z_table C.1 (pc := 40) 2791 (by decide) (by decide) (fm_dec dtLa_0 24 rfl) (la_c44 C hx hm)
  · exact z_table C.1 (pc := 40) 2804 (by decide) (by decide) (fm_dec dtLa_0 24 rfl) (la_c45 C hx hm)
  · exact z_table C.1 (pc := 40) 2829 (by decide) (by decide) (fm_dec dtLa_0 24 rfl) (la_c46 C hx hm)
  · refine z_table C.1 (pc := 40) 2854 (by decide) (sw_out k hk h) (fm_dec dtLa_0 24 rfl) ?_
    exact la_end C rfl (by decide) (by decide)
