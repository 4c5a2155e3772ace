set_option maxRecDepth 20000 in
theorem la_c32 {p : Program} {l : Launch} {e : Env} {s : State} {m : MethodId} {below : List Frame} {meth : Method} {c : Code} {G : fmG} {b : Nat} {xs : Nat → Int32} (C : laC p l s m meth c G b 7 xs) {g g2 : Nat → Nat} {M M2 : fmM} {o : Nat} (hx : xFresh M) (hm : mAll M2) : zEv p l e room_1 s m #[.ref b] below meth c G (fun q => s.heap.size ≤ q) 8 (lw_Z below #[.ref b] s) 2138 [some (.ref b), some (.ref (g 0)), some (.ref (g2 0)), some (.ref o), some (.int 0), none, none, none] [] (fmL Tx (g, G.2) M ++ ((o, .inl (G.2.2.1 1, 1, .inr (.inl fun _ => 0))) :: fmL Tm (g2, G.2) M2)) 1000 30000 := by
  obtain ⟨x1_3_9, x1_3_11, x1_0_13, x1_0_14, x1_0_15, x1_0_16, x1_1_1, x1_1_5, x1_34_5, x1_46_2, x1_47_1, x1_47_2, x1_47_3, x1_47_4, x1_47_5, x2_47_6, x1_27_0, x1_23_3, x1_24_0, x1_24_1, x1_24_2⟩ := hx
  obtain ⟨⟨⟨m1_4_0, m1_4_1, m1_4_2⟩, ⟨m1_7_0, m1_7_9, m1_7_10, m1_7_11, m1_7_12, m1_7_13⟩, ⟨m1_0_17, m1_0_31, m1_0_32, m1_0_33, m1_0_34⟩⟩, m1_0_1, m1_0_3, m1_2_0, m1_2_1⟩ := hm
  refine z_aloadn C.1 (pc := 2138) (n := 1) 1 rfl rfl (fm_dec dtLa_42 22 rfl) ?_
  refine z_callX C.1 (T := Tx) (g := g) (M := M) (rest := (o, .inl (G.2.2.1 1, 1, .inr (.inl fun _ => 0))) :: fmL Tm (g2, G.2) M2) (k := 0) (ci := 10) (d' := 2) (pc := 2139) (As := []) (st := []) cvL_241 (by decide) rfl rfl rfl (by decide) (rm_fr (by decide)) (rm_lo (by decide) (by decide)) (rm_c (k := 1000) (by decide)) (rm_s (k := 30000) (by decide)) (fm_dec dtLa_42 23 rfl) ?_
  refine x_whose C.2.2.2.2.2  x1_3_9 ?_
  refine z_then1 ?_
  refine z_aloadn C.1 (pc := 2142) (n := 2) 2 rfl rfl (fm_dec dtLa_42 24 rfl) ?_
  refine z_perm (wpermW _ _ _) ?_
  refine z_callX C.1 (T := Tm) (g := g2) (M := M2) (k := 0) (ci := 11) (d' := 2) (pc := 2143) (As := []) (st := [.int (0)]) cvL_244 (by decide) rfl rfl rfl (Nat.le_of_ble_eq_true rfl) (rm_fr (by decide)) (rm_lo (by decide) (by decide)) (rm_c (k := 1000) (by decide)) (rm_s (k := 30000) (by decide)) (fm_dec dtLa_42 25 rfl) ?_
  refine m_whose C.2.2.2.2.2  m1_4_0 (fun M3 => ?_)
  refine z_then1 ?_
  refine z_icmp_eq C.1 (pc := 2146) 2854 (by decide) (fm_dec dtLa_42 26 rfl) (fun _ => ?_) (fun h => absurd rfl h)
  exact la_end C rfl (by decide) (by decide)
set_option maxRecDepth 20000 in
theorem la_c33 {p : Program} {l : Launch} {e : Env} {s : State} {m : MethodId} {below : List Frame} {meth : Method} {c : Code} {G : fmG} {b : Nat} {xs : Nat → Int32} (C : laC p l s m meth c G b 7 xs) {g g2 : Nat → Nat} {M M2 : fmM} {o : Nat} (hx : xFresh M) (hm : mAll M2) : zEv p l e room_1 s m #[.ref b] below meth c G (fun q => s.heap.size ≤ q) 8 (lw_Z below #[.ref b] s) 2151 [some (.ref b), some (.ref (g 0)), some (.ref (g2 0)), some (.ref o), some (.int 0), none, none, none] [] (fmL Tx (g, G.2) M ++ ((o, .inl (G.2.2.1 1, 1, .inr (.inl fun _ => 0))) :: fmL Tm (g2, G.2) M2)) 1000 30000 := by
  obtain ⟨x1_3_9, x1_3_11, x1_0_13, x1_0_14, x1_0_15, x1_0_16, x1_1_1, x1_1_5, x1_34_5, x1_46_2, x1_47_1, x1_47_2, x1_47_3, x1_47_4, x1_47_5, x2_47_6, x1_27_0, x1_23_3, x1_24_0, x1_24_1, x1_24_2⟩ := hx
  obtain ⟨⟨⟨m1_4_0, m1_4_1, m1_4_2⟩, ⟨m1_7_0, m1_7_9, m1_7_10, m1_7_11, m1_7_12, m1_7_13⟩, ⟨m1_0_17, m1_0_31, m1_0_32, m1_0_33, m1_0_34⟩⟩, m1_0_1, m1_0_3, m1_2_0, m1_2_1⟩ := hm
  refine z_aloadn C.1 (pc := 2151) (n := 1) 1 rfl rfl (fm_dec dtLa_42 29 rfl) ?_
  refine la_arg C (pc := 2152) 1 (v := 1) rfl rfl (fm_inl (by decide)) (by decide) (by decide) (fm_dec dtLa_43 0 rfl) (fm_dec dtLa_43 1 rfl) (fm_dec dtLa_43 2 rfl) (fm_dec dtLa_43 3 rfl) (fm_dec dtLa_43 4 rfl) ?_
  refine la_arg C (pc := 2158) 2 (v := 2) rfl rfl (fm_inl (by decide)) (by decide) (by decide) (fm_dec dtLa_43 5 rfl) (fm_dec dtLa_43 6 rfl) (fm_dec dtLa_43 7 rfl) (fm_dec dtLa_43 8 rfl) (fm_dec dtLa_43 9 rfl) ?_
  refine z_aloadn C.1 (pc := 2164) (n := 3) 3 rfl rfl (fm_dec dtLa_43 10 rfl) ?_
  refine z_callW C.1 (y' := qL_ahead) (hh := [(0, 9, 12, 13)]) (W0 := WX G g o (fmL Tm (g2, G.2) M2) (M, fun _ => 0)) (WW := WX G g o (fmL Tm (g2, G.2) M2)) (Q := fun r u => (((inR (xs 1) 0 60 ∧ inR (xs 2) 0 1)) → r = 0 ∧ u.2 0 = ((if (xs 2) = 0 then 0 else 1) : Int64)) ∧ (¬ ((inR (xs 1) 0 60 ∧ inR (xs 2) 0 1)) → r = 1)) (As := [.ref (g 0), .int (xs 1), .int (xs 2), .ref o]) (st := []) (pc := 2165) (fm_in 1204 (by decide +kernel) rfl) nst_L_ahead niL nw_L_ahead nd_L_ahead rfl rfl (by decide) (show 23 ≤ room_1.frames by decide) (show 8 + (5 + 11) + 920 ≤ room_1.locals by decide) (rm_c (k := 1000) (by decide)) (rm_s (k := 30000) (by decide)) (fm_dec dtLa_43 11 rfl) (w_ahead (x_ahead C.2.2.2.2.2 _ _ x1_3_9 x1_47_2 (fun h0 h1 => wJ_ok ⟨fun _ => ⟨rfl, rfl⟩, fun h => absurd (show (inR (xs 1) 0 60 ∧ inR (xs 2) 0 1) from ⟨h0, h1⟩) h⟩) (fun M' hn => wJ_x (⟨rfl, ⟨fun h => absurd h hn, fun _ => rfl⟩⟩)))) (fun r u hQ => ?_)
  obtain ⟨M1, f1⟩ := u
  refine z_istore C.1 (pc := 2168) (i := 5) (by decide) rfl (fm_dec dtLa_43 12 rfl) ?_
  dsimp only [List.set_cons_zero, List.set_cons_succ]
  refine z_aloadn C.1 (pc := 2170) (n := 2) 2 rfl rfl (fm_dec dtLa_43 13 rfl) ?_
  refine la_arg C (pc := 2171) 1 (v := 1) rfl rfl (fm_inl (by decide)) (by decide) (by decide) (fm_dec dtLa_43 14 rfl) (fm_dec dtLa_43 15 rfl) (fm_dec dtLa_43 16 rfl) (fm_dec dtLa_43 17 rfl) (fm_dec dtLa_43 18 rfl) ?_
  refine la_arg C (pc := 2177) 2 (v := 2) rfl rfl (fm_inl (by decide)) (by decide) (by decide) (fm_dec dtLa_43 19 rfl) (fm_dec dtLa_43 20 rfl) (fm_dec dtLa_43 21 rfl) (fm_dec dtLa_43 22 rfl) (fm_dec dtLa_43 23 rfl) ?_
  refine z_perm (ws := fmL Tx (g, G.2) M1 ++ ((o, .inl (G.2.2.1 1, 1, .inr (.inl f1))) :: fmL Tm (g2, G.2) M2)) (wpermW _ _ _) ?_
  refine z_callX C.1 (T := Tm) (g := g2) (M := M2) (k := 0) (ci := 11) (d' := 9) (pc := 2183) (As := [.int (xs 1), .int (xs 2)]) (st := []) cvL_247 (by decide) rfl rfl rfl (by decide) (rm_fr (by decide)) (rm_lo (by decide) (by decide)) (rm_c (k := 1001) (by decide)) (rm_s (k := 30006) (by decide)) (fm_dec dtLa_43 24 rfl) ?_
  refine m_ahead C.2.2.2.2.2 _ _ m1_4_0 (fun M3 ht hp => ?_) (fun r9 M3 ht hn => ?_)
  · refine z_then1 ?_
    refine z_lstore C.1 (pc := 2186) (i := 6) (by decide) rfl (fm_dec dtLa_43 25 rfl) ?_
    dsimp only [List.set_cons_zero, List.set_cons_succ]
    exact la_tailJ C (pc := 2188) (by decide) (by decide) (v := (if (xs 2) = 0 then 0 else 1)) ((inR (xs 1) 0 60 ∧ inR (xs 2) 0 1)) (show (1 : Int32) ≠ 0 by decide) hQ.1 hQ.2 (fun _ => ⟨ht, rfl⟩) (fun h => absurd hp h) (fm_dec dtLa_43 26 rfl) (fm_dec dtLa_43 27 rfl) (fm_dec dtLa_43 28 rfl) (fm_dec dtLa_43 29 rfl) (fm_dec dtLa_44 2 rfl) (fm_dec dtLa_44 3 rfl) (fm_dec dtLa_44 4 rfl) (fm_dec dtLa_44 5 rfl) (fm_dec dtLa_44 6 rfl) (fm_dec dtLa_44 7 rfl) (fm_dec dtLa_44 8 rfl) (fm_dec dtLa_44 9 rfl) (by decide) (fm_dec dtLa_44 12 rfl)
  · refine z_then1 ?_
    refine z_lstore C.1 (pc := 2186) (i := 6) (by decide) rfl (fm_dec dtLa_43 25 rfl) ?_
    dsimp only [List.set_cons_zero, List.set_cons_succ]
    exact la_tailJ C (pc := 2188) (by decide) (by decide) (v := (if (xs 2) = 0 then 0 else 1)) ((inR (xs 1) 0 60 ∧ inR (xs 2) 0 1)) (show (1 : Int32) ≠ 0 by decide) hQ.1 hQ.2 (fun h => absurd h hn) (fun _ => ht) (fm_dec dtLa_43 26 rfl) (fm_dec dtLa_43 27 rfl) (fm_dec dtLa_43 28 rfl) (fm_dec dtLa_43 29 rfl) (fm_dec dtLa_44 2 rfl) (fm_dec dtLa_44 3 rfl) (fm_dec dtLa_44 4 rfl) (fm_dec dtLa_44 5 rfl) (fm_dec dtLa_44 6 rfl) (fm_dec dtLa_44 7 rfl) (fm_dec dtLa_44 8 rfl) (fm_dec dtLa_44 9 rfl) (by decide) (fm_dec dtLa_44 12 rfl)
set_option maxRecDepth 20000 in
theorem la_c34 {p : Program} {l : Launch} {e : Env} {s : State} {m : MethodId} {below : List Frame} {meth : Method} {c : Code} {G : fmG} {b : Nat} {xs : Nat → Int32} (C : laC p l s m meth c G b 7 xs) {g g2 : Nat → Nat} {M M2 : fmM} {o : Nat} (hx : xFresh M) (hm : mAll M2) : zEv p l e room_1 s m #[.ref b] below meth c G (fun q => s.heap.size ≤ q) 8 (lw_Z below #[.ref b] s) 2218 [some (.ref b), some (.ref (g 0)), some (.ref (g2 0)), some (.ref o), some (.int 0), none, none, none] [] (fmL Tx (g, G.2) M ++ ((o, .inl (G.2.2.1 1, 1, .inr (.inl fun _ => 0))) :: fmL Tm (g2, G.2) M2)) 1000 30000 := by
  obtain ⟨x1_3_9, x1_3_11, x1_0_13, x1_0_14, x1_0_15, x1_0_16, x1_1_1, x1_1_5, x1_34_5, x1_46_2, x1_47_1, x1_47_2, x1_47_3, x1_47_4, x1_47_5, x2_47_6, x1_27_0, x1_23_3, x1_24_0, x1_24_1, x1_24_2⟩ := hx
  obtain ⟨⟨⟨m1_4_0, m1_4_1, m1_4_2⟩, ⟨m1_7_0, m1_7_9, m1_7_10, m1_7_11, m1_7_12, m1_7_13⟩, ⟨m1_0_17, m1_0_31, m1_0_32, m1_0_33, m1_0_34⟩⟩, m1_0_1, m1_0_3, m1_2_0, m1_2_1⟩ := hm
  refine z_aloadn C.1 (pc := 2218) (n := 1) 1 rfl rfl (fm_dec dtLa_44 13 rfl) ?_
  refine la_arg C (pc := 2219) 1 (v := 1) rfl rfl (fm_inl (by decide)) (by decide) (by decide) (fm_dec dtLa_44 14 rfl) (fm_dec dtLa_44 15 rfl) (fm_dec dtLa_44 16 rfl) (fm_dec dtLa_44 17 rfl) (fm_dec dtLa_44 18 rfl) ?_
  refine la_arg C (pc := 2225) 2 (v := 2) rfl rfl (fm_inl (by decide)) (by decide) (by decide) (fm_dec dtLa_44 19 rfl) (fm_dec dtLa_44 20 rfl) (fm_dec dtLa_44 21 rfl) (fm_dec dtLa_44 22 rfl) (fm_dec dtLa_44 23 rfl) ?_
  refine la_arg C (pc := 2231) 3 (v := 3) rfl rfl (fm_inl (by decide)) (by decide) (by decide) (fm_dec dtLa_44 24 rfl) (fm_dec dtLa_44 25 rfl) (fm_dec dtLa_44 26 rfl) (fm_dec dtLa_44 27 rfl) (fm_dec dtLa_44 28 rfl) ?_
  refine z_aloadn C.1 (pc := 2237) (n := 3) 3 rfl rfl (fm_dec dtLa_44 29 rfl) ?_
  refine z_callW C.1 (y' := qL_lives) (hh := [(0, 11, 14, 31), (0, 11, 18, 13)]) (W0 := WX G g o (fmL Tm (g2, G.2) M2) (M, fun _ => 0)) (WW := WX G g o (fmL Tm (g2, G.2) M2)) (Q := fun r u => ((False) → r = 0 ∧ u.2 0 = (0 : Int64)) ∧ (¬ (False) → r = 1)) (As := [.ref (g 0), .int (xs 1), .int (xs 2), .int (xs 3), .ref o]) (st := []) (pc := 2238) (fm_in 1211 (by decide +kernel) rfl) nst_L_lives niL nw_L_lives nd_L_lives rfl rfl (by decide) (show 23 ≤ room_1.frames by decide) (show 8 + (6 + 11) + 920 ≤ room_1.locals by decide) (rm_c (k := 1000) (by decide)) (rm_s (k := 30000) (by decide)) (fm_dec dtLa_45 0 rfl) (w_lives (x_lives C.2.2.2.2.2 _ _ _ x1_3_9 (fun M' => wJ_x (Or.inl ⟨rfl, ⟨fun h => h.elim, fun _ => rfl⟩⟩)))) (fun r u hQ => ?_)
  obtain ⟨M1, f1⟩ := u
  refine z_istore C.1 (pc := 2241) (i := 5) (by decide) rfl (fm_dec dtLa_45 1 rfl) ?_
  dsimp only [List.set_cons_zero, List.set_cons_succ]
  refine z_aloadn C.1 (pc := 2243) (n := 2) 2 rfl rfl (fm_dec dtLa_45 2 rfl) ?_
  refine la_arg C (pc := 2244) 1 (v := 1) rfl rfl (fm_inl (by decide)) (by decide) (by decide) (fm_dec dtLa_45 3 rfl) (fm_dec dtLa_45 4 rfl) (fm_dec dtLa_45 5 rfl) (fm_dec dtLa_45 6 rfl) (fm_dec dtLa_45 7 rfl) ?_
  refine la_arg C (pc := 2250) 2 (v := 2) rfl rfl (fm_inl (by decide)) (by decide) (by decide) (fm_dec dtLa_45 8 rfl) (fm_dec dtLa_45 9 rfl) (fm_dec dtLa_45 10 rfl) (fm_dec dtLa_45 11 rfl) (fm_dec dtLa_45 12 rfl) ?_
  refine la_arg C (pc := 2256) 3 (v := 3) rfl rfl (fm_inl (by decide)) (by decide) (by decide) (fm_dec dtLa_45 13 rfl) (fm_dec dtLa_45 14 rfl) (fm_dec dtLa_45 15 rfl) (fm_dec dtLa_45 16 rfl) (fm_dec dtLa_45 17 rfl) ?_
  refine z_perm (ws := fmL Tx (g, G.2) M1 ++ ((o, .inl (G.2.2.1 1, 1, .inr (.inl f1))) :: fmL Tm (g2, G.2) M2)) (wpermW _ _ _) ?_
  refine z_callX C.1 (T := Tm) (g := g2) (M := M2) (k := 0) (ci := 11) (d' := 2) (pc := 2262) (As := [.int (xs 1), .int (xs 2), .int (xs 3)]) (st := []) cvL_250 (by decide) rfl rfl rfl (by decide) (rm_fr (by decide)) (rm_lo (by decide) (by decide)) (rm_c (k := 1001) (by decide)) (rm_s (k := 30006) (by decide)) (fm_dec dtLa_45 18 rfl) ?_
  refine m_lives C.2.2.2.2.2 _ _ _ m1_4_0 (fun r9 M3 ht => ?_)
  refine z_then1 ?_
  refine z_lstore C.1 (pc := 2265) (i := 6) (by decide) rfl (fm_dec dtLa_45 19 rfl) ?_
  dsimp only [List.set_cons_zero, List.set_cons_succ]
  exact la_tailJ C (pc := 2267) (by decide) (by decide) (v := 0) (False) (show (1 : Int32) ≠ 0 by decide) hQ.1 hQ.2 (fun h => h.elim) (fun _ => ht) (fm_dec dtLa_45 20 rfl) (fm_dec dtLa_45 21 rfl) (fm_dec dtLa_45 22 rfl) (fm_dec dtLa_45 23 rfl) (fm_dec dtLa_45 26 rfl) (fm_dec dtLa_45 27 rfl) (fm_dec dtLa_45 28 rfl) (fm_dec dtLa_45 29 rfl) (fm_dec dtLa_46 0 rfl) (fm_dec dtLa_46 1 rfl) (fm_dec dtLa_46 2 rfl) (fm_dec dtLa_46 3 rfl) (by decide) (fm_dec dtLa_46 6 rfl)
set_option maxRecDepth 20000 in
theorem la_c35 {p : Program} {l : Launch} {e : Env} {s : State} {m : MethodId} {below : List Frame} {meth : Method} {c : Code} {G : fmG} {b : Nat} {xs : Nat → Int32} (C : laC p l s m meth c G b 7 xs) {g g2 : Nat → Nat} {M M2 : fmM} {o : Nat} (hx : xFresh M) (hm : mAll M2) : zEv p l e room_1 s m #[.ref b] below meth c G (fun q => s.heap.size ≤ q) 8 (lw_Z below #[.ref b] s) 2297 [some (.ref b), some (.ref (g 0)), some (.ref (g2 0)), some (.ref o), some (.int 0), none, none, none] [] (fmL Tx (g, G.2) M ++ ((o, .inl (G.2.2.1 1, 1, .inr (.inl fun _ => 0))) :: fmL Tm (g2, G.2) M2)) 1000 30000 := by
  obtain ⟨x1_3_9, x1_3_11, x1_0_13, x1_0_14, x1_0_15, x1_0_16, x1_1_1, x1_1_5, x1_34_5, x1_46_2, x1_47_1, x1_47_2, x1_47_3, x1_47_4, x1_47_5, x2_47_6, x1_27_0, x1_23_3, x1_24_0, x1_24_1, x1_24_2⟩ := hx
  obtain ⟨⟨⟨m1_4_0, m1_4_1, m1_4_2⟩, ⟨m1_7_0, m1_7_9, m1_7_10, m1_7_11, m1_7_12, m1_7_13⟩, ⟨m1_0_17, m1_0_31, m1_0_32, m1_0_33, m1_0_34⟩⟩, m1_0_1, m1_0_3, m1_2_0, m1_2_1⟩ := hm
  refine z_aloadn C.1 (pc := 2297) (n := 1) 1 rfl rfl (fm_dec dtLa_46 7 rfl) ?_
  refine z_callX C.1 (T := Tx) (g := g) (M := M) (rest := (o, .inl (G.2.2.1 1, 1, .inr (.inl fun _ => 0))) :: fmL Tm (g2, G.2) M2) (k := 0) (ci := 10) (d' := 0) (pc := 2298) (As := []) (st := []) cvL_251 (by decide) rfl rfl rfl (by decide) (rm_fr (by decide)) (rm_lo (by decide) (by decide)) (rm_c (k := 1000) (by decide)) (rm_s (k := 30000) (by decide)) (fm_dec dtLa_46 8 rfl) ?_
  refine x_oldest C.2.2.2.2.2  x1_3_9 ?_
  refine z_then1 ?_
  refine z_aloadn C.1 (pc := 2301) (n := 2) 2 rfl rfl (fm_dec dtLa_46 9 rfl) ?_
  refine z_perm (wpermW _ _ _) ?_
  refine z_callX C.1 (T := Tm) (g := g2) (M := M2) (k := 0) (ci := 11) (d' := 1) (pc := 2302) (As := []) (st := [.int ((-1))]) cvL_254 (by decide) rfl rfl rfl (Nat.le_of_ble_eq_true rfl) (rm_fr (by decide)) (rm_lo (by decide) (by decide)) (rm_c (k := 1000) (by decide)) (rm_s (k := 30000) (by decide)) (fm_dec dtLa_46 10 rfl) ?_
  refine m_oldest C.2.2.2.2.2  m1_4_0 (fun M3 => ?_)
  refine z_then1 ?_
  refine z_icmp_eq C.1 (pc := 2305) 2854 (by decide) (fm_dec dtLa_46 11 rfl) (fun _ => ?_) (fun h => absurd rfl h)
  exact la_end C rfl (by decide) (by decide)
set_option maxRecDepth 20000 in
theorem la_c36 {p : Program} {l : Launch} {e : Env} {s : State} {m : MethodId} {below : List Frame} {meth : Method} {c : Code} {G : fmG} {b : Nat} {xs : Nat → Int32} (C : laC p l s m meth c G b 7 xs) {g g2 : Nat → Nat} {M M2 : fmM} {o : Nat} (hx : xFresh M) (hm : mAll M2) : zEv p l e room_1 s m #[.ref b] below meth c G (fun q => s.heap.size ≤ q) 8 (lw_Z below #[.ref b] s) 2310 [some (.ref b), some (.ref (g 0)), some (.ref (g2 0)), some (.ref o), some (.int 0), none, none, none] [] (fmL Tx (g, G.2) M ++ ((o, .inl (G.2.2.1 1, 1, .inr (.inl fun _ => 0))) :: fmL Tm (g2, G.2) M2)) 1000 30000 := by
  obtain ⟨x1_3_9, x1_3_11, x1_0_13, x1_0_14, x1_0_15, x1_0_16, x1_1_1, x1_1_5, x1_34_5, x1_46_2, x1_47_1, x1_47_2, x1_47_3, x1_47_4, x1_47_5, x2_47_6, x1_27_0, x1_23_3, x1_24_0, x1_24_1, x1_24_2⟩ := hx
  obtain ⟨⟨⟨m1_4_0, m1_4_1, m1_4_2⟩, ⟨m1_7_0, m1_7_9, m1_7_10, m1_7_11, m1_7_12, m1_7_13⟩, ⟨m1_0_17, m1_0_31, m1_0_32, m1_0_33, m1_0_34⟩⟩, m1_0_1, m1_0_3, m1_2_0, m1_2_1⟩ := hm
  refine z_aloadn C.1 (pc := 2310) (n := 1) 1 rfl rfl (fm_dec dtLa_46 14 rfl) ?_
  refine la_arg C (pc := 2311) 1 (v := 1) rfl rfl (fm_inl (by decide)) (by decide) (by decide) (fm_dec dtLa_46 15 rfl) (fm_dec dtLa_46 16 rfl) (fm_dec dtLa_46 17 rfl) (fm_dec dtLa_46 18 rfl) (fm_dec dtLa_46 19 rfl) ?_
  refine la_arg C (pc := 2317) 2 (v := 2) rfl rfl (fm_inl (by decide)) (by decide) (by decide) (fm_dec dtLa_46 20 rfl) (fm_dec dtLa_46 21 rfl) (fm_dec dtLa_46 22 rfl) (fm_dec dtLa_46 23 rfl) (fm_dec dtLa_46 24 rfl) ?_
  refine z_aloadn C.1 (pc := 2323) (n := 3) 3 rfl rfl (fm_dec dtLa_46 25 rfl) ?_
  refine z_callW C.1 (y' := qL_chain) (hh := [(0, 10, 13, 31), (0, 10, 17, 13)]) (W0 := WX G g o (fmL Tm (g2, G.2) M2) (M, fun _ => 0)) (WW := WX G g o (fmL Tm (g2, G.2) M2)) (Q := fun r u => ((False) → r = 0 ∧ u.2 0 = (0 : Int32).toInt64) ∧ (¬ (False) → r = 1)) (As := [.ref (g 0), .int (xs 1), .int (xs 2), .ref o]) (st := []) (pc := 2324) (fm_in 1218 (by decide +kernel) rfl) nst_L_chain niL nw_L_chain nd_L_chain rfl rfl (by decide) (show 23 ≤ room_1.frames by decide) (show 8 + (5 + 11) + 920 ≤ room_1.locals by decide) (rm_c (k := 1000) (by decide)) (rm_s (k := 30000) (by decide)) (fm_dec dtLa_46 26 rfl) (w_chain (x_chain C.2.2.2.2.2 _ _ x1_3_9 (fun M' => wI_x (Or.inl ⟨rfl, ⟨fun h => h.elim, fun _ => rfl⟩⟩)))) (fun r u hQ => ?_)
  obtain ⟨M1, f1⟩ := u
  refine z_istore C.1 (pc := 2327) (i := 5) (by decide) rfl (fm_dec dtLa_46 27 rfl) ?_
  dsimp only [List.set_cons_zero, List.set_cons_succ]
  refine z_aloadn C.1 (pc := 2329) (n := 2) 2 rfl rfl (fm_dec dtLa_46 28 rfl) ?_
  refine la_arg C (pc := 2330) 1 (v := 1) rfl rfl (fm_inl (by decide)) (by decide) (by decide) (fm_dec dtLa_46 29 rfl) (fm_dec dtLa_47 0 rfl) (fm_dec dtLa_47 1 rfl) (fm_dec dtLa_47 2 rfl) (fm_dec dtLa_47 3 rfl) ?_
  refine la_arg C (pc := 2336) 2 (v := 2) rfl rfl (fm_inl (by decide)) (by decide) (by decide) (fm_dec dtLa_47 4 rfl) (fm_dec dtLa_47 5 rfl) (fm_dec dtLa_47 6 rfl) (fm_dec dtLa_47 7 rfl) (fm_dec dtLa_47 8 rfl) ?_
  refine z_perm (ws := fmL Tx (g, G.2) M1 ++ ((o, .inl (G.2.2.1 1, 1, .inr (.inl f1))) :: fmL Tm (g2, G.2) M2)) (wpermW _ _ _) ?_
  refine z_callX C.1 (T := Tm) (g := g2) (M := M2) (k := 0) (ci := 11) (d' := 2) (pc := 2342) (As := [.int (xs 1), .int (xs 2)]) (st := []) cvL_257 (by decide) rfl rfl rfl (by decide) (rm_fr (by decide)) (rm_lo (by decide) (by decide)) (rm_c (k := 1001) (by decide)) (rm_s (k := 30006) (by decide)) (fm_dec dtLa_47 9 rfl) ?_
  refine m_chain C.2.2.2.2.2 _ _ m1_4_0 (fun r9 M3 ht => ?_)
  refine z_then1 ?_
  refine z_istore C.1 (pc := 2345) (i := 6) (by decide) rfl (fm_dec dtLa_47 10 rfl) ?_
  dsimp only [List.set_cons_zero, List.set_cons_succ]
  exact la_tailI C (pc := 2347) (by decide) (by decide) (v := 0) (False) (show (1 : Int32) ≠ 0 by decide) hQ.1 hQ.2 (fun h => h.elim) (fun _ => ht) (fm_dec dtLa_47 11 rfl) (fm_dec dtLa_47 12 rfl) (fm_dec dtLa_47 13 rfl) (fm_dec dtLa_47 14 rfl) (fm_dec dtLa_47 17 rfl) (fm_dec dtLa_47 18 rfl) (fm_dec dtLa_47 19 rfl) (fm_dec dtLa_47 20 rfl) (fm_dec dtLa_47 21 rfl) (fm_dec dtLa_47 22 rfl) (fm_dec dtLa_47 23 rfl) (fm_dec dtLa_47 24 rfl) (fm_dec dtLa_47 25 rfl) (by decide) (fm_dec dtLa_47 28 rfl)
set_option maxRecDepth 20000 in
theorem la_c37 {p : Program} {l : Launch} {e : Env} {s : State} {m : MethodId} {below : List Frame} {meth : Method} {c : Code} {G : fmG} {b : Nat} {xs : Nat → Int32} (C : laC p l s m meth c G b 7 xs) {g g2 : Nat → Nat} {M M2 : fmM} {o : Nat} (hx : xFresh M) (hm : mAll M2) : zEv p l e room_1 s m #[.ref b] below meth c G (fun q => s.heap.size ≤ q) 8 (lw_Z below #[.ref b] s) 2378 [some (.ref b), some (.ref (g 0)), some (.ref (g2 0)), some (.ref o), some (.int 0), none, none, none] [] (fmL Tx (g, G.2) M ++ ((o, .inl (G.2.2.1 1, 1, .inr (.inl fun _ => 0))) :: fmL Tm (g2, G.2) M2)) 1000 30000 := by
  obtain ⟨x1_3_9, x1_3_11, x1_0_13, x1_0_14, x1_0_15, x1_0_16, x1_1_1, x1_1_5, x1_34_5, x1_46_2, x1_47_1, x1_47_2, x1_47_3, x1_47_4, x1_47_5, x2_47_6, x1_27_0, x1_23_3, x1_24_0, x1_24_1, x1_24_2⟩ := hx
  obtain ⟨⟨⟨m1_4_0, m1_4_1, m1_4_2⟩, ⟨m1_7_0, m1_7_9, m1_7_10, m1_7_11, m1_7_12, m1_7_13⟩, ⟨m1_0_17, m1_0_31, m1_0_32, m1_0_33, m1_0_34⟩⟩, m1_0_1, m1_0_3, m1_2_0, m1_2_1⟩ := hm
  refine z_aloadn C.1 (pc := 2378) (n := 1) 1 rfl rfl (fm_dec dtLa_47 29 rfl) ?_
  refine la_arg C (pc := 2379) 1 (v := 1) rfl rfl (fm_inl (by decide)) (by decide) (by decide) (fm_dec dtLa_48 0 rfl) (fm_dec dtLa_48 1 rfl) (fm_dec dtLa_48 2 rfl) (fm_dec dtLa_48 3 rfl) (fm_dec dtLa_48 4 rfl) ?_
  refine la_arg C (pc := 2385) 2 (v := 2) rfl rfl (fm_inl (by decide)) (by decide) (by decide) (fm_dec dtLa_48 5 rfl) (fm_dec dtLa_48 6 rfl) (fm_dec dtLa_48 7 rfl) (fm_dec dtLa_48 8 rfl) (fm_dec dtLa_48 9 rfl) ?_
  refine z_aloadn C.1 (pc := 2391) (n := 3) 3 rfl rfl (fm_dec dtLa_48 10 rfl) ?_
  refine z_callW C.1 (y' := qL_due) (hh := [(0, 10, 13, 31), (0, 10, 17, 13)]) (W0 := WX G g o (fmL Tm (g2, G.2) M2) (M, fun _ => 0)) (WW := WX G g o (fmL Tm (g2, G.2) M2)) (Q := fun r u => ((False) → r = 0 ∧ u.2 0 = (0 : Int32).toInt64) ∧ (¬ (False) → r = 1)) (As := [.ref (g 0), .int (xs 1), .int (xs 2), .ref o]) (st := []) (pc := 2392) (fm_in 1225 (by decide +kernel) rfl) nst_L_due niL nw_L_due nd_L_due rfl rfl (by decide) (show 23 ≤ room_1.frames by decide) (show 8 + (5 + 11) + 920 ≤ room_1.locals by decide) (rm_c (k := 1000) (by decide)) (rm_s (k := 30000) (by decide)) (fm_dec dtLa_48 11 rfl) (w_due (x_due C.2.2.2.2.2 _ _ x1_3_9 (fun M' => wI_x (Or.inl ⟨rfl, ⟨fun h => h.elim, fun _ => rfl⟩⟩)))) (fun r u hQ => ?_)
  obtain ⟨M1, f1⟩ := u
  refine z_istore C.1 (pc := 2395) (i := 5) (by decide) rfl (fm_dec dtLa_48 12 rfl) ?_
  dsimp only [List.set_cons_zero, List.set_cons_succ]
  refine z_aloadn C.1 (pc := 2397) (n := 2) 2 rfl rfl (fm_dec dtLa_48 13 rfl) ?_
  refine la_arg C (pc := 2398) 1 (v := 1) rfl rfl (fm_inl (by decide)) (by decide) (by decide) (fm_dec dtLa_48 14 rfl) (fm_dec dtLa_48 15 rfl) (fm_dec dtLa_48 16 rfl) (fm_dec dtLa_48 17 rfl) (fm_dec dtLa_48 18 rfl) ?_
  refine la_arg C (pc := 2404) 2 (v := 2) rfl rfl (fm_inl (by decide)) (by decide) (by decide) (fm_dec dtLa_48 19 rfl) (fm_dec dtLa_48 20 rfl) (fm_dec dtLa_48 21 rfl) (fm_dec dtLa_48 22 rfl) (fm_dec dtLa_48 23 rfl) ?_
  refine z_perm (ws := fmL Tx (g, G.2) M1 ++ ((o, .inl (G.2.2.1 1, 1, .inr (.inl f1))) :: fmL Tm (g2, G.2) M2)) (wpermW _ _ _) ?_
  refine z_callX C.1 (T := Tm) (g := g2) (M := M2) (k := 0) (ci := 11) (d' := 5) (pc := 2410) (As := [.int (xs 1), .int (xs 2)]) (st := []) cvL_260 (by decide) rfl rfl rfl (by decide) (rm_fr (by decide)) (rm_lo (by decide) (by decide)) (rm_c (k := 1001) (by decide)) (rm_s (k := 30006) (by decide)) (fm_dec dtLa_48 24 rfl) ?_
  refine m_due C.2.2.2.2.2 _ _ m1_4_0 (fun r9 M3 ht => ?_)
  refine z_then1 ?_
  refine z_istore C.1 (pc := 2413) (i := 6) (by decide) rfl (fm_dec dtLa_48 25 rfl) ?_
  dsimp only [List.set_cons_zero, List.set_cons_succ]
  exact la_tailI C (pc := 2415) (by decide) (by decide) (v := 0) (False) (show (1 : Int32) ≠ 0 by decide) hQ.1 hQ.2 (fun h => h.elim) (fun _ => ht) (fm_dec dtLa_48 26 rfl) (fm_dec dtLa_48 27 rfl) (fm_dec dtLa_48 28 rfl) (fm_dec dtLa_48 29 rfl) (fm_dec dtLa_49 2 rfl) (fm_dec dtLa_49 3 rfl) (fm_dec dtLa_49 4 rfl) (fm_dec dtLa_49 5 rfl) (fm_dec dtLa_49 6 rfl) (fm_dec dtLa_49 7 rfl) (fm_dec dtLa_49 8 rfl) (fm_dec dtLa_49 9 rfl) (fm_dec dtLa_49 10 rfl) (by decide) (fm_dec dtLa_49 13 rfl)
set_option maxRecDepth 20000 in
theorem la_c38 {p : Program} {l : Launch} {e : Env} {s : State} {m : MethodId} {below : List Frame} {meth : Method} {c : Code} {G : fmG} {b : Nat} {xs : Nat → Int32} (C : laC p l s m meth c G b 7 xs) {g g2 : Nat → Nat} {M M2 : fmM} {o : Nat} (hx : xFresh M) (hm : mAll M2) : zEv p l e room_1 s m #[.ref b] below meth c G (fun q => s.heap.size ≤ q) 8 (lw_Z below #[.ref b] s) 2446 [some (.ref b), some (.ref (g 0)), some (.ref (g2 0)), some (.ref o), some (.int 0), none, none, none] [] (fmL Tx (g, G.2) M ++ ((o, .inl (G.2.2.1 1, 1, .inr (.inl fun _ => 0))) :: fmL Tm (g2, G.2) M2)) 1000 30000 := by
  obtain ⟨x1_3_9, x1_3_11, x1_0_13, x1_0_14, x1_0_15, x1_0_16, x1_1_1, x1_1_5, x1_34_5, x1_46_2, x1_47_1, x1_47_2, x1_47_3, x1_47_4, x1_47_5, x2_47_6, x1_27_0, x1_23_3, x1_24_0, x1_24_1, x1_24_2⟩ := hx
  obtain ⟨⟨⟨m1_4_0, m1_4_1, m1_4_2⟩, ⟨m1_7_0, m1_7_9, m1_7_10, m1_7_11, m1_7_12, m1_7_13⟩, ⟨m1_0_17, m1_0_31, m1_0_32, m1_0_33, m1_0_34⟩⟩, m1_0_1, m1_0_3, m1_2_0, m1_2_1⟩ := hm
  refine z_aloadn C.1 (pc := 2446) (n := 1) 1 rfl rfl (fm_dec dtLa_49 14 rfl) ?_
  refine la_arg C (pc := 2447) 1 (v := 1) rfl rfl (fm_inl (by decide)) (by decide) (by decide) (fm_dec dtLa_49 15 rfl) (fm_dec dtLa_49 16 rfl) (fm_dec dtLa_49 17 rfl) (fm_dec dtLa_49 18 rfl) (fm_dec dtLa_49 19 rfl) ?_
  refine z_aloadn C.1 (pc := 2453) (n := 3) 3 rfl rfl (fm_dec dtLa_49 20 rfl) ?_
  refine z_callW C.1 (y' := qL_news) (hh := [(0, 9, 12, 31)]) (W0 := WX G g o (fmL Tm (g2, G.2) M2) (M, fun _ => 0)) (WW := WX G g o (fmL Tm (g2, G.2) M2)) (Q := fun r u => ((False) → r = 0 ∧ u.2 0 = (0 : Int32).toInt64) ∧ (¬ (False) → r = 1)) (As := [.ref (g 0), .int (xs 1), .ref o]) (st := []) (pc := 2454) (fm_in 1232 (by decide +kernel) rfl) nst_L_news niL nw_L_news nd_L_news rfl rfl (by decide) (show 23 ≤ room_1.frames by decide) (show 8 + (4 + 11) + 920 ≤ room_1.locals by decide) (rm_c (k := 1000) (by decide)) (rm_s (k := 30000) (by decide)) (fm_dec dtLa_49 21 rfl) (w_news (x_news C.2.2.2.2.2 _ x1_3_9 (fun M' => wI_x (⟨rfl, ⟨fun h => h.elim, fun _ => rfl⟩⟩)))) (fun r u hQ => ?_)
  obtain ⟨M1, f1⟩ := u
  refine z_istore C.1 (pc := 2457) (i := 5) (by decide) rfl (fm_dec dtLa_49 22 rfl) ?_
  dsimp only [List.set_cons_zero, List.set_cons_succ]
  refine z_aloadn C.1 (pc := 2459) (n := 2) 2 rfl rfl (fm_dec dtLa_49 23 rfl) ?_
  refine la_arg C (pc := 2460) 1 (v := 1) rfl rfl (fm_inl (by decide)) (by decide) (by decide) (fm_dec dtLa_49 24 rfl) (fm_dec dtLa_49 25 rfl) (fm_dec dtLa_49 26 rfl) (fm_dec dtLa_49 27 rfl) (fm_dec dtLa_49 28 rfl) ?_
  refine z_perm (ws := fmL Tx (g, G.2) M1 ++ ((o, .inl (G.2.2.1 1, 1, .inr (.inl f1))) :: fmL Tm (g2, G.2) M2)) (wpermW _ _ _) ?_
  refine z_callX C.1 (T := Tm) (g := g2) (M := M2) (k := 0) (ci := 11) (d' := 2) (pc := 2466) (As := [.int (xs 1)]) (st := []) cvL_263 (by decide) rfl rfl rfl (by decide) (rm_fr (by decide)) (rm_lo (by decide) (by decide)) (rm_c (k := 1001) (by decide)) (rm_s (k := 30006) (by decide)) (fm_dec dtLa_49 29 rfl) ?_
  refine m_news C.2.2.2.2.2 _ m1_4_0 (fun r9 M3 ht => ?_)
  refine z_then1 ?_
  refine z_istore C.1 (pc := 2469) (i := 6) (by decide) rfl (fm_dec dtLa_50 0 rfl) ?_
  dsimp only [List.set_cons_zero, List.set_cons_succ]
  exact la_tailI C (pc := 2471) (by decide) (by decide) (v := 0) (False) (show (1 : Int32) ≠ 0 by decide) hQ.1 hQ.2 (fun h => h.elim) (fun _ => ht) (fm_dec dtLa_50 1 rfl) (fm_dec dtLa_50 2 rfl) (fm_dec dtLa_50 3 rfl) (fm_dec dtLa_50 4 rfl) (fm_dec dtLa_50 7 rfl) (fm_dec dtLa_50 8 rfl) (fm_dec dtLa_50 9 rfl) (fm_dec dtLa_50 10 rfl) (fm_dec dtLa_50 11 rfl) (fm_dec dtLa_50 12 rfl) (fm_dec dtLa_50 13 rfl) (fm_dec dtLa_50 14 rfl) (fm_dec dtLa_50 15 rfl) (by decide) (fm_dec dtLa_50 18 rfl)
set_option maxRecDepth 20000 in
theorem la_c39 {p : Program} {l : Launch} {e : Env} {s : State} {m : MethodId} {below : List Frame} {meth : Method} {c : Code} {G : fmG} {b : Nat} {xs : Nat → Int32} (C : laC p l s m meth c G b 7 xs) {g g2 : Nat → Nat} {M M2 : fmM} {o : Nat} (hx : xFresh M) (hm : mAll M2) : zEv p l e room_1 s m #[.ref b] below meth c G (fun q => s.heap.size ≤ q) 8 (lw_Z below #[.ref b] s) 2502 [some (.ref b), some (.ref (g 0)), some (.ref (g2 0)), some (.ref o), some (.int 0), none, none, none] [] (fmL Tx (g, G.2) M ++ ((o, .inl (G.2.2.1 1, 1, .inr (.inl fun _ => 0))) :: fmL Tm (g2, G.2) M2)) 1000 30000 := by
  obtain ⟨x1_3_9, x1_3_11, x1_0_13, x1_0_14, x1_0_15, x1_0_16, x1_1_1, x1_1_5, x1_34_5, x1_46_2, x1_47_1, x1_47_2, x1_47_3, x1_47_4, x1_47_5, x2_47_6, x1_27_0, x1_23_3, x1_24_0, x1_24_1, x1_24_2⟩ := hx
  obtain ⟨⟨⟨m1_4_0, m1_4_1, m1_4_2⟩, ⟨m1_7_0, m1_7_9, m1_7_10, m1_7_11, m1_7_12, m1_7_13⟩, ⟨m1_0_17, m1_0_31, m1_0_32, m1_0_33, m1_0_34⟩⟩, m1_0_1, m1_0_3, m1_2_0, m1_2_1⟩ := hm
  refine z_aloadn C.1 (pc := 2502) (n := 1) 1 rfl rfl (fm_dec dtLa_50 19 rfl) ?_
  refine la_arg C (pc := 2503) 1 (v := 1) rfl rfl (fm_inl (by decide)) (by decide) (by decide) (fm_dec dtLa_50 20 rfl) (fm_dec dtLa_50 21 rfl) (fm_dec dtLa_50 22 rfl) (fm_dec dtLa_50 23 rfl) (fm_dec dtLa_50 24 rfl) ?_
  refine la_arg C (pc := 2509) 2 (v := 2) rfl rfl (fm_inl (by decide)) (by decide) (by decide) (fm_dec dtLa_50 25 rfl) (fm_dec dtLa_50 26 rfl) (fm_dec dtLa_50 27 rfl) (fm_dec dtLa_50 28 rfl) (fm_dec dtLa_50 29 rfl) ?_
  refine la_arg C (pc := 2515) 3 (v := 3) rfl rfl (fm_inl (by decide)) (by decide) (by decide) (fm_dec dtLa_51 0 rfl) (fm_dec dtLa_51 1 rfl) (fm_dec dtLa_51 2 rfl) (fm_dec dtLa_51 3 rfl) (fm_dec dtLa_51 4 rfl) ?_
  refine z_aloadn C.1 (pc := 2521) (n := 3) 3 rfl rfl (fm_dec dtLa_51 5 rfl) ?_
  refine z_callW C.1 (y' := qL_expects) (hh := [(0, 11, 14, 31), (0, 11, 18, 13)]) (W0 := WX G g o (fmL Tm (g2, G.2) M2) (M, fun _ => 0)) (WW := WX G g o (fmL Tm (g2, G.2) M2)) (Q := fun r u => ((False) → r = 0 ∧ u.2 0 = (0 : Int64)) ∧ (¬ (False) → r = 1)) (As := [.ref (g 0), .int (xs 1), .int (xs 2), .int (xs 3), .ref o]) (st := []) (pc := 2522) (fm_in 1243 (by decide +kernel) rfl) nst_L_expects niL nw_L_expects nd_L_expects rfl rfl (by decide) (show 23 ≤ room_1.frames by decide) (show 8 + (6 + 11) + 920 ≤ room_1.locals by decide) (rm_c (k := 1000) (by decide)) (rm_s (k := 30000) (by decide)) (fm_dec dtLa_51 6 rfl) (w_expects (x_expects C.2.2.2.2.2 _ _ _ x1_3_9 (fun M' => wJ_x (Or.inl ⟨rfl, ⟨fun h => h.elim, fun _ => rfl⟩⟩)))) (fun r u hQ => ?_)
  obtain ⟨M1, f1⟩ := u
  refine z_istore C.1 (pc := 2525) (i := 5) (by decide) rfl (fm_dec dtLa_51 7 rfl) ?_
  dsimp only [List.set_cons_zero, List.set_cons_succ]
  refine z_aloadn C.1 (pc := 2527) (n := 2) 2 rfl rfl (fm_dec dtLa_51 8 rfl) ?_
  refine la_arg C (pc := 2528) 1 (v := 1) rfl rfl (fm_inl (by decide)) (by decide) (by decide) (fm_dec dtLa_51 9 rfl) (fm_dec dtLa_51 10 rfl) (fm_dec dtLa_51 11 rfl) (fm_dec dtLa_51 12 rfl) (fm_dec dtLa_51 13 rfl) ?_
  refine la_arg C (pc := 2534) 2 (v := 2) rfl rfl (fm_inl (by decide)) (by decide) (by decide) (fm_dec dtLa_51 14 rfl) (fm_dec dtLa_51 15 rfl) (fm_dec dtLa_51 16 rfl) (fm_dec dtLa_51 17 rfl) (fm_dec dtLa_51 18 rfl) ?_
  refine la_arg C (pc := 2540) 3 (v := 3) rfl rfl (fm_inl (by decide)) (by decide) (by decide) (fm_dec dtLa_51 19 rfl) (fm_dec dtLa_51 20 rfl) (fm_dec dtLa_51 21 rfl) (fm_dec dtLa_51 22 rfl) (fm_dec dtLa_51 23 rfl) ?_
  refine z_perm (ws := fmL Tx (g, G.2) M1 ++ ((o, .inl (G.2.2.1 1, 1, .inr (.inl f1))) :: fmL Tm (g2, G.2) M2)) (wpermW _ _ _) ?_
  refine z_callX C.1 (T := Tm) (g := g2) (M := M2) (k := 0) (ci := 11) (d' := 6) (pc := 2546) (As := [.int (xs 1), .int (xs 2), .int (xs 3)]) (st := []) cvL_266 (by decide) rfl rfl rfl (by decide) (rm_fr (by decide)) (rm_lo (by decide) (by decide)) (rm_c (k := 1001) (by decide)) (rm_s (k := 30006) (by decide)) (fm_dec dtLa_51 24 rfl) ?_
  refine m_expects C.2.2.2.2.2 _ _ _ m1_4_0 (fun r9 M3 ht => ?_)
  refine z_then1 ?_
  refine z_lstore C.1 (pc := 2549) (i := 6) (by decide) rfl (fm_dec dtLa_51 25 rfl) ?_
  dsimp only [List.set_cons_zero, List.set_cons_succ]
  exact la_tailJ C (pc := 2551) (by decide) (by decide) (v := 0) (False) (show (1 : Int32) ≠ 0 by decide) hQ.1 hQ.2 (fun h => h.elim) (fun _ => ht) (fm_dec dtLa_51 26 rfl) (fm_dec dtLa_51 27 rfl) (fm_dec dtLa_51 28 rfl) (fm_dec dtLa_51 29 rfl) (fm_dec dtLa_52 2 rfl) (fm_dec dtLa_52 3 rfl) (fm_dec dtLa_52 4 rfl) (fm_dec dtLa_52 5 rfl) (fm_dec dtLa_52 6 rfl) (fm_dec dtLa_52 7 rfl) (fm_dec dtLa_52 8 rfl) (fm_dec dtLa_52 9 rfl) (by decide) (fm_dec dtLa_52 12 rfl)
set_option maxRecDepth 20000 in
theorem la_c40 {p : Program} {l : Launch} {e : Env} {s : State} {m : MethodId} {below : List Frame} {meth : Method} {c : Code} {G : fmG} {b : Nat} {xs : Nat → Int32} (C : laC p l s m meth c G b 7 xs) {g g2 : Nat → Nat} {M M2 : fmM} {o : Nat} (hx : xFresh M) (hm : mAll M2) : zEv p l e room_1 s m #[.ref b] below meth c G (fun q => s.heap.size ≤ q) 8 (lw_Z below #[.ref b] s) 2581 [some (.ref b), some (.ref (g 0)), some (.ref (g2 0)), some (.ref o), some (.int 0), none, none, none] [] (fmL Tx (g, G.2) M ++ ((o, .inl (G.2.2.1 1, 1, .inr (.inl fun _ => 0))) :: fmL Tm (g2, G.2) M2)) 1000 30000 := by
  obtain ⟨x1_3_9, x1_3_11, x1_0_13, x1_0_14, x1_0_15, x1_0_16, x1_1_1, x1_1_5, x1_34_5, x1_46_2, x1_47_1, x1_47_2, x1_47_3, x1_47_4, x1_47_5, x2_47_6, x1_27_0, x1_23_3, x1_24_0, x1_24_1, x1_24_2⟩ := hx
  obtain ⟨⟨⟨m1_4_0, m1_4_1, m1_4_2⟩, ⟨m1_7_0, m1_7_9, m1_7_10, m1_7_11, m1_7_12, m1_7_13⟩, ⟨m1_0_17, m1_0_31, m1_0_32, m1_0_33, m1_0_34⟩⟩, m1_0_1, m1_0_3, m1_2_0, m1_2_1⟩ := hm
  refine z_aloadn C.1 (pc := 2581) (n := 1) 1 rfl rfl (fm_dec dtLa_52 13 rfl) ?_
  refine z_callX C.1 (T := Tx) (g := g) (M := M) (rest := (o, .inl (G.2.2.1 1, 1, .inr (.inl fun _ => 0))) :: fmL Tm (g2, G.2) M2) (k := 0) (ci := 10) (d' := 5) (pc := 2582) (As := []) (st := []) cvL_267 (by decide) rfl rfl rfl (by decide) (rm_fr (by decide)) (rm_lo (by decide) (by decide)) (rm_c (k := 1000) (by decide)) (rm_s (k := 30000) (by decide)) (fm_dec dtLa_52 14 rfl) ?_
  refine x_worst C.2.2.2.2.2  x1_3_9 x1_47_2 ?_
  refine z_then1 ?_
  refine z_aloadn C.1 (pc := 2585) (n := 2) 2 rfl rfl (fm_dec dtLa_52 15 rfl) ?_
  refine z_perm (wpermW _ _ _) ?_
  refine z_callX C.1 (T := Tm) (g := g2) (M := M2) (k := 0) (ci := 11) (d' := 9) (pc := 2586) (As := []) (st := [.int (0)]) cvL_270 (by decide) rfl rfl rfl (Nat.le_of_ble_eq_true rfl) (rm_fr (by decide)) (rm_lo (by decide) (by decide)) (rm_c (k := 1000) (by decide)) (rm_s (k := 30000) (by decide)) (fm_dec dtLa_52 16 rfl) ?_
  refine m_worst C.2.2.2.2.2  m1_4_0 (fun M3 => ?_)
  refine z_then1 ?_
  refine z_icmp_eq C.1 (pc := 2589) 2854 (by decide) (fm_dec dtLa_52 17 rfl) (fun _ => ?_) (fun h => absurd rfl h)
  exact la_end C rfl (by decide) (by decide)
set_option maxRecDepth 20000 in
theorem la_c41 {p : Program} {l : Launch} {e : Env} {s : State} {m : MethodId} {below : List Frame} {meth : Method} {c : Code} {G : fmG} {b : Nat} {xs : Nat → Int32} (C : laC p l s m meth c G b 7 xs) {g g2 : Nat → Nat} {M M2 : fmM} {o : Nat} (hx : xFresh M) (hm : mAll M2) : zEv p l e room_1 s m #[.ref b] below meth c G (fun q => s.heap.size ≤ q) 8 (lw_Z below #[.ref b] s) 2594 [some (.ref b), some (.ref (g 0)), some (.ref (g2 0)), some (.ref o), some (.int 0), none, none, none] [] (fmL Tx (g, G.2) M ++ ((o, .inl (G.2.2.1 1, 1, .inr (.inl fun _ => 0))) :: fmL Tm (g2, G.2) M2)) 1000 30000 := by
  obtain ⟨x1_3_9, x1_3_11, x1_0_13, x1_0_14, x1_0_15, x1_0_16, x1_1_1, x1_1_5, x1_34_5, x1_46_2, x1_47_1, x1_47_2, x1_47_3, x1_47_4, x1_47_5, x2_47_6, x1_27_0, x1_23_3, x1_24_0, x1_24_1, x1_24_2⟩ := hx
  obtain ⟨⟨⟨m1_4_0, m1_4_1, m1_4_2⟩, ⟨m1_7_0, m1_7_9, m1_7_10, m1_7_11, m1_7_12, m1_7_13⟩, ⟨m1_0_17, m1_0_31, m1_0_32, m1_0_33, m1_0_34⟩⟩, m1_0_1, m1_0_3, m1_2_0, m1_2_1⟩ := hm
  refine z_aloadn C.1 (pc := 2594) (n := 1) 1 rfl rfl (fm_dec dtLa_52 20 rfl) ?_
  refine la_arg C (pc := 2595) 1 (v := 1) rfl rfl (fm_inl (by decide)) (by decide) (by decide) (fm_dec dtLa_52 21 rfl) (fm_dec dtLa_52 22 rfl) (fm_dec dtLa_52 23 rfl) (fm_dec dtLa_52 24 rfl) (fm_dec dtLa_52 25 rfl) ?_
  refine la_arg C (pc := 2601) 2 (v := 2) rfl rfl (fm_inl (by decide)) (by decide) (by decide) (fm_dec dtLa_52 26 rfl) (fm_dec dtLa_52 27 rfl) (fm_dec dtLa_52 28 rfl) (fm_dec dtLa_52 29 rfl) (fm_dec dtLa_53 0 rfl) ?_
  refine la_arg C (pc := 2607) 3 (v := 3) rfl rfl (fm_inl (by decide)) (by decide) (by decide) (fm_dec dtLa_53 1 rfl) (fm_dec dtLa_53 2 rfl) (fm_dec dtLa_53 3 rfl) (fm_dec dtLa_53 4 rfl) (fm_dec dtLa_53 5 rfl) ?_
  refine z_aloadn C.1 (pc := 2613) (n := 3) 3 rfl rfl (fm_dec dtLa_53 6 rfl) ?_
  refine z_callW C.1 (y' := qL_years) (hh := [(0, 12, 15, 13)]) (W0 := WX G g o (fmL Tm (g2, G.2) M2) (M, fun _ => 0)) (WW := WX G g o (fmL Tm (g2, G.2) M2)) (Q := fun r u => (((inR (xs 2) 1 60 ∧ inR (xs 3) 0 4)) → r = 0 ∧ u.2 0 = (0 : Int32).toInt64) ∧ (¬ ((inR (xs 2) 1 60 ∧ inR (xs 3) 0 4)) → r = 1)) (As := [.ref (g 0), .int (xs 1), .int (xs 2), .int (xs 3), .ref o]) (st := []) (pc := 2614) (fm_in 1251 (by decide +kernel) rfl) nst_L_years niL nw_L_years nd_L_years rfl rfl (by decide) (show 23 ≤ room_1.frames by decide) (show 8 + (6 + 11) + 920 ≤ room_1.locals by decide) (rm_c (k := 1000) (by decide)) (rm_s (k := 30000) (by decide)) (fm_dec dtLa_53 7 rfl) (w_years (x_years C.2.2.2.2.2 _ _ _ x1_3_9 x1_47_1 (fun M' h0 h1 => wI_ok ⟨fun _ => ⟨rfl, rfl⟩, fun h => absurd (show (inR (xs 2) 1 60 ∧ inR (xs 3) 0 4) from ⟨h0, h1⟩) h⟩) (fun M' hn => wI_x (⟨rfl, ⟨fun h => absurd h hn, fun _ => rfl⟩⟩)))) (fun r u hQ => ?_)
  obtain ⟨M1, f1⟩ := u
  refine z_istore C.1 (pc := 2617) (i := 5) (by decide) rfl (fm_dec dtLa_53 8 rfl) ?_
  dsimp only [List.set_cons_zero, List.set_cons_succ]
  refine z_aloadn C.1 (pc := 2619) (n := 2) 2 rfl rfl (fm_dec dtLa_53 9 rfl) ?_
  refine la_arg C (pc := 2620) 1 (v := 1) rfl rfl (fm_inl (by decide)) (by decide) (by decide) (fm_dec dtLa_53 10 rfl) (fm_dec dtLa_53 11 rfl) (fm_dec dtLa_53 12 rfl) (fm_dec dtLa_53 13 rfl) (fm_dec dtLa_53 14 rfl) ?_
  refine la_arg C (pc := 2626) 2 (v := 2) rfl rfl (fm_inl (by decide)) (by decide) (by decide) (fm_dec dtLa_53 15 rfl) (fm_dec dtLa_53 16 rfl) (fm_dec dtLa_53 17 rfl) (fm_dec dtLa_53 18 rfl) (fm_dec dtLa_53 19 rfl) ?_
  refine la_arg C (pc := 2632) 3 (v := 3) rfl rfl (fm_inl (by decide)) (by decide) (by decide) (fm_dec dtLa_53 20 rfl) (fm_dec dtLa_53 21 rfl) (fm_dec dtLa_53 22 rfl) (fm_dec dtLa_53 23 rfl) (fm_dec dtLa_53 24 rfl) ?_
  refine z_perm (ws := fmL Tx (g, G.2) M1 ++ ((o, .inl (G.2.2.1 1, 1, .inr (.inl f1))) :: fmL Tm (g2, G.2) M2)) (wpermW _ _ _) ?_
  refine z_callX C.1 (T := Tm) (g := g2) (M := M2) (k := 0) (ci := 11) (d' := 10) (pc := 2638) (As := [.int (xs 1), .int (xs 2), .int (xs 3)]) (st := []) cvL_273 (by decide) rfl rfl rfl (by decide) (rm_fr (by decide)) (rm_lo (by decide) (by decide)) (rm_c (k := 1001) (by decide)) (rm_s (k := 30006) (by decide)) (fm_dec dtLa_53 25 rfl) ?_
  refine m_years C.2.2.2.2.2 _ _ _ m1_4_0 m1_7_11 m1_7_12 m1_7_13 (fun M3 ht hp => ?_) (fun r9 M3 ht hn => ?_)
  · refine z_then1 ?_
    refine z_istore C.1 (pc := 2641) (i := 6) (by decide) rfl (fm_dec dtLa_53 26 rfl) ?_
    dsimp only [List.set_cons_zero, List.set_cons_succ]
    exact la_tailI C (pc := 2643) (by decide) (by decide) (v := 0) ((inR (xs 2) 1 60 ∧ inR (xs 3) 0 4)) (show (1 : Int32) ≠ 0 by decide) hQ.1 hQ.2 (fun _ => ⟨ht, rfl⟩) (fun h => absurd hp h) (fm_dec dtLa_53 27 rfl) (fm_dec dtLa_53 28 rfl) (fm_dec dtLa_53 29 rfl) (fm_dec dtLa_54 0 rfl) (fm_dec dtLa_54 3 rfl) (fm_dec dtLa_54 4 rfl) (fm_dec dtLa_54 5 rfl) (fm_dec dtLa_54 6 rfl) (fm_dec dtLa_54 7 rfl) (fm_dec dtLa_54 8 rfl) (fm_dec dtLa_54 9 rfl) (fm_dec dtLa_54 10 rfl) (fm_dec dtLa_54 11 rfl) (by decide) (fm_dec dtLa_54 14 rfl)
  · refine z_then1 ?_
    refine z_istore C.1 (pc := 2641) (i := 6) (by decide) rfl (fm_dec dtLa_53 26 rfl) ?_
    dsimp only [List.set_cons_zero, List.set_cons_succ]
    exact la_tailI C (pc := 2643) (by decide) (by decide) (v := 0) ((inR (xs 2) 1 60 ∧ inR (xs 3) 0 4)) (show (1 : Int32) ≠ 0 by decide) hQ.1 hQ.2 (fun h => absurd h hn) (fun _ => ht) (fm_dec dtLa_53 27 rfl) (fm_dec dtLa_53 28 rfl) (fm_dec dtLa_53 29 rfl) (fm_dec dtLa_54 0 rfl) (fm_dec dtLa_54 3 rfl) (fm_dec dtLa_54 4 rfl) (fm_dec dtLa_54 5 rfl) (fm_dec dtLa_54 6 rfl) (fm_dec dtLa_54 7 rfl) (fm_dec dtLa_54 8 rfl) (fm_dec dtLa_54 9 rfl) (fm_dec dtLa_54 10 rfl) (fm_dec dtLa_54 11 rfl) (by decide) (fm_dec dtLa_54 14 rfl)
set_option maxRecDepth 20000 in
theorem la_c42 {p : Program} {l : Launch} {e : Env} {s : State} {m : MethodId} {below : List Frame} {meth : Method} {c : Code} {G : fmG} {b : Nat} {xs : Nat → Int32} (C : laC p l s m meth c G b 7 xs) {g g2 : Nat → Nat} {M M2 : fmM} {o : Nat} (hx : xFresh M) (hm : mAll M2) : zEv p l e room_1 s m #[.ref b] below meth c G (fun q => s.heap.size ≤ q) 8 (lw_Z below #[.ref b] s) 2674 [some (.ref b), some (.ref (g 0)), some (.ref (g2 0)), some (.ref o), some (.int 0), none, none, none] [] (fmL Tx (g, G.2) M ++ ((o, .inl (G.2.2.1 1, 1, .inr (.inl fun _ => 0))) :: fmL Tm (g2, G.2) M2)) 1000 30000 := by
  obtain ⟨x1_3_9, x1_3_11, x1_0_13, x1_0_14, x1_0_15, x1_0_16, x1_1_1, x1_1_5, x1_34_5, x1_46_2, x1_47_1, x1_47_2, x1_47_3, x1_47_4, x1_47_5, x2_47_6, x1_27_0, x1_23_3, x1_24_0, x1_24_1, x1_24_2⟩ := hx
  obtain ⟨⟨⟨m1_4_0, m1_4_1, m1_4_2⟩, ⟨m1_7_0, m1_7_9, m1_7_10, m1_7_11, m1_7_12, m1_7_13⟩, ⟨m1_0_17, m1_0_31, m1_0_32, m1_0_33, m1_0_34⟩⟩, m1_0_1, m1_0_3, m1_2_0, m1_2_1⟩ := hm
  refine z_aloadn C.1 (pc := 2674) (n := 1) 1 rfl rfl (fm_dec dtLa_54 15 rfl) ?_
  refine la_arg C (pc := 2675) 1 (v := 1) rfl rfl (fm_inl (by decide)) (by decide) (by decide) (fm_dec dtLa_54 16 rfl) (fm_dec dtLa_54 17 rfl) (fm_dec dtLa_54 18 rfl) (fm_dec dtLa_54 19 rfl) (fm_dec dtLa_54 20 rfl) ?_
  refine la_arg C (pc := 2681) 2 (v := 2) rfl rfl (fm_inl (by decide)) (by decide) (by decide) (fm_dec dtLa_54 21 rfl) (fm_dec dtLa_54 22 rfl) (fm_dec dtLa_54 23 rfl) (fm_dec dtLa_54 24 rfl) (fm_dec dtLa_54 25 rfl) ?_
  refine la_arg C (pc := 2687) 3 (v := 3) rfl rfl (fm_inl (by decide)) (by decide) (by decide) (fm_dec dtLa_54 26 rfl) (fm_dec dtLa_54 27 rfl) (fm_dec dtLa_54 28 rfl) (fm_dec dtLa_54 29 rfl) (fm_dec dtLa_55 0 rfl) ?_
  refine la_arg C (pc := 2693) 4 (v := 4) rfl rfl (fm_inl (by decide)) (by decide) (by decide) (fm_dec dtLa_55 1 rfl) (fm_dec dtLa_55 2 rfl) (fm_dec dtLa_55 3 rfl) (fm_dec dtLa_55 4 rfl) (fm_dec dtLa_55 5 rfl) ?_
  refine la_arg C (pc := 2699) 5 (v := 5) rfl rfl (fm_inl (by decide)) (by decide) (by decide) (fm_dec dtLa_55 6 rfl) (fm_dec dtLa_55 7 rfl) (fm_dec dtLa_55 8 rfl) (fm_dec dtLa_55 9 rfl) (fm_dec dtLa_55 10 rfl) ?_
  refine z_aloadn C.1 (pc := 2705) (n := 3) 3 rfl rfl (fm_dec dtLa_55 11 rfl) ?_
  refine z_callW C.1 (y' := qL_span) (hh := [(0, 16, 19, 13)]) (W0 := WX G g o (fmL Tm (g2, G.2) M2) (M, fun _ => 0)) (WW := WX G g o (fmL Tm (g2, G.2) M2)) (Q := fun r u => ((False) → r = 0 ∧ u.2 0 = (0 : Int32).toInt64) ∧ (¬ (False) → r = 1)) (As := [.ref (g 0), .int (xs 1), .int (xs 2), .int (xs 3), .int (xs 4), .int (xs 5), .ref o]) (st := []) (pc := 2706) (fm_in 1282 (by decide +kernel) rfl) nst_L_span niL nw_L_span nd_L_span rfl rfl (by decide) (show 23 ≤ room_1.frames by decide) (show 8 + (8 + 11) + 920 ≤ room_1.locals by decide) (rm_c (k := 1000) (by decide)) (rm_s (k := 30000) (by decide)) (fm_dec dtLa_55 12 rfl) (w_span (x_span C.2.2.2.2.2 _ _ _ _ _ x1_3_9 (fun M' => wI_x (⟨rfl, ⟨fun h => h.elim, fun _ => rfl⟩⟩)))) (fun r u hQ => ?_)
  obtain ⟨M1, f1⟩ := u
  refine z_istore C.1 (pc := 2709) (i := 5) (by decide) rfl (fm_dec dtLa_55 13 rfl) ?_
  dsimp only [List.set_cons_zero, List.set_cons_succ]
  refine z_aloadn C.1 (pc := 2711) (n := 2) 2 rfl rfl (fm_dec dtLa_55 14 rfl) ?_
  refine la_arg C (pc := 2712) 1 (v := 1) rfl rfl (fm_inl (by decide)) (by decide) (by decide) (fm_dec dtLa_55 15 rfl) (fm_dec dtLa_55 16 rfl) (fm_dec dtLa_55 17 rfl) (fm_dec dtLa_55 18 rfl) (fm_dec dtLa_55 19 rfl) ?_
  refine la_arg C (pc := 2718) 2 (v := 2) rfl rfl (fm_inl (by decide)) (by decide) (by decide) (fm_dec dtLa_55 20 rfl) (fm_dec dtLa_55 21 rfl) (fm_dec dtLa_55 22 rfl) (fm_dec dtLa_55 23 rfl) (fm_dec dtLa_55 24 rfl) ?_
  refine la_arg C (pc := 2724) 3 (v := 3) rfl rfl (fm_inl (by decide)) (by decide) (by decide) (fm_dec dtLa_55 25 rfl) (fm_dec dtLa_55 26 rfl) (fm_dec dtLa_55 27 rfl) (fm_dec dtLa_55 28 rfl) (fm_dec dtLa_55 29 rfl) ?_
  refine la_arg C (pc := 2730) 4 (v := 4) rfl rfl (fm_inl (by decide)) (by decide) (by decide) (fm_dec dtLa_56 0 rfl) (fm_dec dtLa_56 1 rfl) (fm_dec dtLa_56 2 rfl) (fm_dec dtLa_56 3 rfl) (fm_dec dtLa_56 4 rfl) ?_
  refine la_arg C (pc := 2736) 5 (v := 5) rfl rfl (fm_inl (by decide)) (by decide) (by decide) (fm_dec dtLa_56 5 rfl) (fm_dec dtLa_56 6 rfl) (fm_dec dtLa_56 7 rfl) (fm_dec dtLa_56 8 rfl) (fm_dec dtLa_56 9 rfl) ?_
  refine z_perm (ws := fmL Tx (g, G.2) M1 ++ ((o, .inl (G.2.2.1 1, 1, .inr (.inl f1))) :: fmL Tm (g2, G.2) M2)) (wpermW _ _ _) ?_
  refine z_callX C.1 (T := Tm) (g := g2) (M := M2) (k := 0) (ci := 11) (d' := 10) (pc := 2742) (As := [.int (xs 1), .int (xs 2), .int (xs 3), .int (xs 4), .int (xs 5)]) (st := []) cvL_276 (by decide) rfl rfl rfl (by decide) (rm_fr (by decide)) (rm_lo (by decide) (by decide)) (rm_c (k := 1001) (by decide)) (rm_s (k := 30006) (by decide)) (fm_dec dtLa_56 10 rfl) ?_
  refine m_span C.2.2.2.2.2 _ _ _ _ _ m1_4_0 (fun r9 M3 ht => ?_)
  refine z_then1 ?_
  refine z_istore C.1 (pc := 2745) (i := 6) (by decide) rfl (fm_dec dtLa_56 11 rfl) ?_
  dsimp only [List.set_cons_zero, List.set_cons_succ]
  exact la_tailI C (pc := 2747) (by decide) (by decide) (v := 0) (False) (show (1 : Int32) ≠ 0 by decide) hQ.1 hQ.2 (fun h => h.elim) (fun _ => ht) (fm_dec dtLa_56 12 rfl) (fm_dec dtLa_56 13 rfl) (fm_dec dtLa_56 14 rfl) (fm_dec dtLa_56 15 rfl) (fm_dec dtLa_56 18 rfl) (fm_dec dtLa_56 19 rfl) (fm_dec dtLa_56 20 rfl) (fm_dec dtLa_56 21 rfl) (fm_dec dtLa_56 22 rfl) (fm_dec dtLa_56 23 rfl) (fm_dec dtLa_56 24 rfl) (fm_dec dtLa_56 25 rfl) (fm_dec dtLa_56 26 rfl) (by decide) (fm_dec dtLa_56 29 rfl)
set_option maxRecDepth 20000 in
theorem la_c43 {p : Program} {l : Launch} {e : Env} {s : State} {m : MethodId} {below : List Frame} {meth : Method} {c : Code} {G : fmG} {b : Nat} {xs : Nat → Int32} (C : laC p l s m meth c G b 7 xs) {g g2 : Nat → Nat} {M M2 : fmM} {o : Nat} (hx : xFresh M) (hm : mAll M2) : zEv p l e room_1 s m #[.ref b] below meth c G (fun q => s.heap.size ≤ q) 8 (lw_Z below #[.ref b] s) 2778 [some (.ref b), some (.ref (g 0)), some (.ref (g2 0)), some (.ref o), some (.int 0), none, none, none] [] (fmL Tx (g, G.2) M ++ ((o, .inl (G.2.2.1 1, 1, .inr (.inl fun _ => 0))) :: fmL Tm (g2, G.2) M2)) 1000 30000 := by
  obtain ⟨x1_3_9, x1_3_11, x1_0_13, x1_0_14, x1_0_15, x1_0_16, x1_1_1, x1_1_5, x1_34_5, x1_46_2, x1_47_1, x1_47_2, x1_47_3, x1_47_4, x1_47_5, x2_47_6, x1_27_0, x1_23_3, x1_24_0, x1_24_1, x1_24_2⟩ := hx
  obtain ⟨⟨⟨m1_4_0, m1_4_1, m1_4_2⟩, ⟨m1_7_0, m1_7_9, m1_7_10, m1_7_11, m1_7_12, m1_7_13⟩, ⟨m1_0_17, m1_0_31, m1_0_32, m1_0_33, m1_0_34⟩⟩, m1_0_1, m1_0_3, m1_2_0, m1_2_1⟩ := hm
  refine z_aloadn C.1 (pc := 2778) (n := 1) 1 rfl rfl (fm_dec dtLa_57 0 rfl) ?_
  refine z_callX C.1 (T := Tx) (g := g) (M := M) (rest := (o, .inl (G.2.2.1 1, 1, .inr (.inl fun _ => 0))) :: fmL Tm (g2, G.2) M2) (k := 0) (ci := 10) (d' := 2) (pc := 2779) (As := []) (st := []) cvL_277 (by decide) rfl rfl rfl (by decide) (rm_fr (by decide)) (rm_lo (by decide) (by decide)) (rm_c (k := 1000) (by decide)) (rm_s (k := 30000) (by decide)) (fm_dec dtLa_57 1 rfl) ?_
  refine x_image C.2.2.2.2.2  x1_0_13 x1_46_2 (fun M1 => ?_)
  refine z_then1 ?_
  refine z_aloadn C.1 (pc := 2782) (n := 2) 2 rfl rfl (fm_dec dtLa_57 2 rfl) ?_
  refine z_perm (wpermW _ _ _) ?_
  refine z_callX C.1 (T := Tm) (g := g2) (M := M2) (k := 0) (ci := 11) (d' := 2) (pc := 2783) (As := []) (st := [.int (1)]) cvL_280 (by decide) rfl rfl rfl (Nat.le_of_ble_eq_true rfl) (rm_fr (by decide)) (rm_lo (by decide) (by decide)) (rm_c (k := 1000) (by decide)) (rm_s (k := 30000) (by decide)) (fm_dec dtLa_57 3 rfl) ?_
  refine m_image C.2.2.2.2.2  m1_0_34 (fun M3 => ?_)
  refine z_then1 ?_
  refine z_icmp_eq C.1 (pc := 2786) 2854 (by decide) (fm_dec dtLa_57 4 rfl) (fun _ => ?_) (fun h => absurd rfl h)
  exact la_end C rfl (by decide) (by decide)
set_option maxRecDepth 20000 in
theorem la_c44 {p : Program} {l : Launch} {e : Env} {s : State} {m : MethodId} {below : List Frame} {meth : Method} {c : Code} {G : fmG} {b : Nat} {xs : Nat → Int32} (C : laC p l s m meth c G b 7 xs) {g g2 : Nat → Nat} {M M2 : fmM} {o : Nat} (hx : xFresh M) (hm : mAll M2) : zEv p l e room_1 s m #[.ref b] below meth c G (fun q => s.heap.size ≤ q) 8 (lw_Z below #[.ref b] s) 2791 [some (.ref b), some (.ref (g 0)), some (.ref (g2 0)), some (.ref o), some (.int 0), none, none, none] [] (fmL Tx (g, G.2) M ++ ((o, .inl (G.2.2.1 1, 1, .inr (.inl fun _ => 0))) :: fmL Tm (g2, G.2) M2)) 1000 30000 := by
  obtain ⟨x1_3_9, x1_3_11, x1_0_13, x1_0_14, x1_0_15, x1_0_16, x1_1_1, x1_1_5, x1_34_5, x1_46_2, x1_47_1, x1_47_2, x1_47_3, x1_47_4, x1_47_5, x2_47_6, x1_27_0, x1_23_3, x1_24_0, x1_24_1, x1_24_2⟩ := hx
  obtain ⟨⟨⟨m1_4_0, m1_4_1, m1_4_2⟩, ⟨m1_7_0, m1_7_9, m1_7_10, m1_7_11, m1_7_12, m1_7_13⟩, ⟨m1_0_17, m1_0_31, m1_0_32, m1_0_33, m1_0_34⟩⟩, m1_0_1, m1_0_3, m1_2_0, m1_2_1⟩ := hm
  refine z_aloadn C.1 (pc := 2791) (n := 1) 1 rfl rfl (fm_dec dtLa_57 7 rfl) ?_
  refine z_callX C.1 (T := Tx) (g := g) (M := M) (rest := (o, .inl (G.2.2.1 1, 1, .inr (.inl fun _ => 0))) :: fmL Tm (g2, G.2) M2) (k := 0) (ci := 10) (d' := 2) (pc := 2792) (As := []) (st := []) cvL_281 (by decide) rfl rfl rfl (by decide) (rm_fr (by decide)) (rm_lo (by decide) (by decide)) (rm_c (k := 1000) (by decide)) (rm_s (k := 30000) (by decide)) (fm_dec dtLa_57 8 rfl) ?_
  refine x_restore C.2.2.2.2.2  x1_0_13 ?_
  refine z_then1 ?_
  refine z_aloadn C.1 (pc := 2795) (n := 2) 2 rfl rfl (fm_dec dtLa_57 9 rfl) ?_
  refine z_perm (wpermW _ _ _) ?_
  refine z_callX C.1 (T := Tm) (g := g2) (M := M2) (k := 0) (ci := 11) (d' := 2) (pc := 2796) (As := []) (st := [.int ((-1))]) cvL_284 (by decide) rfl rfl rfl (Nat.le_of_ble_eq_true rfl) (rm_fr (by decide)) (rm_lo (by decide) (by decide)) (rm_c (k := 1000) (by decide)) (rm_s (k := 30000) (by decide)) (fm_dec dtLa_57 10 rfl) ?_
  refine m_restore C.2.2.2.2.2  m1_0_34 (fun M3 => ?_)
  refine z_then1 ?_
  refine z_icmp_eq C.1 (pc := 2799) 2854 (by decide) (fm_dec dtLa_57 11 rfl) (fun _ => ?_) (fun h => absurd rfl h)
  exact la_end C rfl (by decide) (by decide)
set_option maxRecDepth 20000 in
theorem la_c45 {p : Program} {l : Launch} {e : Env} {s : State} {m : MethodId} {below : List Frame} {meth : Method} {c : Code} {G : fmG} {b : Nat} {xs : Nat → Int32} (C : laC p l s m meth c G b 7 xs) {g g2 : Nat → Nat} {M M2 : fmM} {o : Nat} (hx : xFresh M) (hm : mAll M2) : zEv p l e room_1 s m #[.ref b] below meth c G (fun q => s.heap.size ≤ q) 8 (lw_Z below #[.ref b] s) 2804 [some (.ref b), some (.ref (g 0)), some (.ref (g2 0)), some (.ref o), some (.int 0), none, none, none] [] (fmL Tx (g, G.2) M ++ ((o, .inl (G.2.2.1 1, 1, .inr (.inl fun _ => 0))) :: fmL Tm (g2, G.2) M2)) 1000 30000 := by
  obtain ⟨x1_3_9, x1_3_11, x1_0_13, x1_0_14, x1_0_15, x1_0_16, x1_1_1, x1_1_5, x1_34_5, x1_46_2, x1_47_1, x1_47_2, x1_47_3, x1_47_4, x1_47_5, x2_47_6, x1_27_0, x1_23_3, x1_24_0, x1_24_1, x1_24_2⟩ := hx
  obtain ⟨⟨⟨m1_4_0, m1_4_1, m1_4_2⟩, ⟨m1_7_0, m1_7_9, m1_7_10, m1_7_11, m1_7_12, m1_7_13⟩, ⟨m1_0_17, m1_0_31, m1_0_32, m1_0_33, m1_0_34⟩⟩, m1_0_1, m1_0_3, m1_2_0, m1_2_1⟩ := hm
  refine z_aloadn C.1 (pc := 2804) (n := 1) 1 rfl rfl (fm_dec dtLa_57 14 rfl) ?_
  refine la_arg C (pc := 2805) 1 (v := 1) rfl rfl (fm_inl (by decide)) (by decide) (by decide) (fm_dec dtLa_57 15 rfl) (fm_dec dtLa_57 16 rfl) (fm_dec dtLa_57 17 rfl) (fm_dec dtLa_57 18 rfl) (fm_dec dtLa_57 19 rfl) ?_
  refine z_callX C.1 (T := Tx) (g := g) (M := M) (rest := (o, .inl (G.2.2.1 1, 1, .inr (.inl fun _ => 0))) :: fmL Tm (g2, G.2) M2) (k := 0) (ci := 10) (d' := 0) (pc := 2811) (As := [.int (xs 1)]) (st := []) cvL_285 (by decide) rfl rfl rfl (by decide) (rm_fr (by decide)) (rm_lo (by decide) (by decide)) (rm_c (k := 1000) (by decide)) (rm_s (k := 30000) (by decide)) (fm_dec dtLa_57 20 rfl) ?_
  refine x_status C.2.2.2.2.2 _ x1_0_15 x1_0_16 ?_
  refine z_then1 ?_
  refine z_aloadn C.1 (pc := 2814) (n := 2) 2 rfl rfl (fm_dec dtLa_57 21 rfl) ?_
  refine la_arg C (pc := 2815) 1 (v := 1) rfl rfl (fm_inl (by decide)) (by decide) (by decide) (fm_dec dtLa_57 22 rfl) (fm_dec dtLa_57 23 rfl) (fm_dec dtLa_57 24 rfl) (fm_dec dtLa_57 25 rfl) (fm_dec dtLa_57 26 rfl) ?_
  refine z_perm (wpermW _ _ _) ?_
  refine z_callX C.1 (T := Tm) (g := g2) (M := M2) (k := 0) (ci := 11) (d' := 1) (pc := 2821) (As := [.int (xs 1)]) (st := [.int ((if (xs 1) = 0 ∨ (xs 1) = 1 then 0 else -1))]) cvL_288 (by decide) rfl rfl rfl (Nat.le_of_ble_eq_true rfl) (rm_fr (by decide)) (rm_lo (by decide) (by decide)) (rm_c (k := 1000) (by decide)) (rm_s (k := 30000) (by decide)) (fm_dec dtLa_57 27 rfl) ?_
  refine m_status C.2.2.2.2.2 _ m1_2_0 m1_2_1 (fun M3 => ?_)
  refine z_then1 ?_
  refine z_icmp_eq C.1 (pc := 2824) 2854 (by decide) (fm_dec dtLa_57 28 rfl) (fun _ => ?_) (fun h => absurd rfl h)
  exact la_end C rfl (by decide) (by decide)
set_option maxRecDepth 20000 in
theorem la_c46 {p : Program} {l : Launch} {e : Env} {s : State} {m : MethodId} {below : List Frame} {meth : Method} {c : Code} {G : fmG} {b : Nat} {xs : Nat → Int32} (C : laC p l s m meth c G b 7 xs) {g g2 : Nat → Nat} {M M2 : fmM} {o : Nat} (hx : xFresh M) (hm : mAll M2) : zEv p l e room_1 s m #[.ref b] below meth c G (fun q => s.heap.size ≤ q) 8 (lw_Z below #[.ref b] s) 2829 [some (.ref b), some (.ref (g 0)), some (.ref (g2 0)), some (.ref o), some (.int 0), none, none, none] [] (fmL Tx (g, G.2) M ++ ((o, .inl (G.2.2.1 1, 1, .inr (.inl fun _ => 0))) :: fmL Tm (g2, G.2) M2)) 1000 30000 := by
  obtain ⟨x1_3_9, x1_3_11, x1_0_13, x1_0_14, x1_0_15, x1_0_16, x1_1_1, x1_1_5, x1_34_5, x1_46_2, x1_47_1, x1_47_2, x1_47_3, x1_47_4, x1_47_5, x2_47_6, x1_27_0, x1_23_3, x1_24_0, x1_24_1, x1_24_2⟩ := hx
  obtain ⟨⟨⟨m1_4_0, m1_4_1, m1_4_2⟩, ⟨m1_7_0, m1_7_9, m1_7_10, m1_7_11, m1_7_12, m1_7_13⟩, ⟨m1_0_17, m1_0_31, m1_0_32, m1_0_33, m1_0_34⟩⟩, m1_0_1, m1_0_3, m1_2_0, m1_2_1⟩ := hm
  refine z_aloadn C.1 (pc := 2829) (n := 1) 1 rfl rfl (fm_dec dtLa_58 1 rfl) ?_
  refine la_arg C (pc := 2830) 1 (v := 1) rfl rfl (fm_inl (by decide)) (by decide) (by decide) (fm_dec dtLa_58 2 rfl) (fm_dec dtLa_58 3 rfl) (fm_dec dtLa_58 4 rfl) (fm_dec dtLa_58 5 rfl) (fm_dec dtLa_58 6 rfl) ?_
  refine z_callX C.1 (T := Tx) (g := g) (M := M) (rest := (o, .inl (G.2.2.1 1, 1, .inr (.inl fun _ => 0))) :: fmL Tm (g2, G.2) M2) (k := 0) (ci := 10) (d' := 0) (pc := 2836) (As := [.int (xs 1)]) (st := []) cvL_289 (by decide) rfl rfl rfl (by decide) (rm_fr (by decide)) (rm_lo (by decide) (by decide)) (rm_c (k := 1000) (by decide)) (rm_s (k := 30000) (by decide)) (fm_dec dtLa_58 7 rfl) ?_
  refine x_count C.2.2.2.2.2 _ x1_0_13 x1_1_1 x1_46_2 ?_
  refine z_then1 ?_
  refine z_aloadn C.1 (pc := 2839) (n := 2) 2 rfl rfl (fm_dec dtLa_58 8 rfl) ?_
  refine la_arg C (pc := 2840) 1 (v := 1) rfl rfl (fm_inl (by decide)) (by decide) (by decide) (fm_dec dtLa_58 9 rfl) (fm_dec dtLa_58 10 rfl) (fm_dec dtLa_58 11 rfl) (fm_dec dtLa_58 12 rfl) (fm_dec dtLa_58 13 rfl) ?_
  refine z_perm (wpermW _ _ _) ?_
  refine z_callX C.1 (T := Tm) (g := g2) (M := M2) (k := 0) (ci := 11) (d' := 0) (pc := 2846) (As := [.int (xs 1)]) (st := [.int ((if (xs 1) = 0 ∨ (xs 1) = 1 ∨ (xs 1) = 2 then 0 else -1))]) cvL_292 (by decide) rfl rfl rfl (Nat.le_of_ble_eq_true rfl) (rm_fr (by decide)) (rm_lo (by decide) (by decide)) (rm_c (k := 1000) (by decide)) (rm_s (k := 30000) (by decide)) (fm_dec dtLa_58 14 rfl) ?_
  refine m_count C.2.2.2.2.2 _ m1_0_34 m1_0_1 m1_0_32 (fun M3 => ?_)
  refine z_then1 ?_
  refine z_icmp_eq C.1 (pc := 2849) 2854 (by decide) (fm_dec dtLa_58 15 rfl) (fun _ => ?_) (fun h => absurd rfl h)
  exact la_end C rfl (by decide) (by decide)
