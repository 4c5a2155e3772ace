set_option maxRecDepth 20000 in
theorem la_c16 {p : Program} {l : Launch} {e : Env} {s : State} {m : MethodId} {below : List Frame} {meth : Method} {c : Code} {G : fmG} {b : Nat} {xs : Nat → Int32} (C : laC p l s m meth c G b 7 xs) {g g2 : Nat → Nat} {M M2 : fmM} {o : Nat} (hx : xFresh M) (hm : mAll M2) : zEv p l e room_1 s m #[.ref b] below meth c G (fun q => s.heap.size ≤ q) 8 (lw_Z below #[.ref b] s) 1151 [some (.ref b), some (.ref (g 0)), some (.ref (g2 0)), some (.ref o), some (.int 0), none, none, none] [] (fmL Tx (g, G.2) M ++ ((o, .inl (G.2.2.1 1, 1, .inr (.inl fun _ => 0))) :: fmL Tm (g2, G.2) M2)) 1000 30000 := by
  obtain ⟨x1_3_9, x1_3_11, x1_0_13, x1_0_14, x1_0_15, x1_0_16, x1_1_1, x1_1_5, x1_34_5, x1_46_2, x1_47_1, x1_47_2, x1_47_3, x1_47_4, x1_47_5, x2_47_6, x1_27_0, x1_23_3, x1_24_0, x1_24_1, x1_24_2⟩ := hx
  obtain ⟨⟨⟨m1_4_0, m1_4_1, m1_4_2⟩, ⟨m1_7_0, m1_7_9, m1_7_10, m1_7_11, m1_7_12, m1_7_13⟩, ⟨m1_0_17, m1_0_31, m1_0_32, m1_0_33, m1_0_34⟩⟩, m1_0_1, m1_0_3, m1_2_0, m1_2_1⟩ := hm
  refine z_aloadn C.1 (pc := 1151) (n := 1) 1 rfl rfl (fm_dec dtLa_20 17 rfl) ?_
  refine z_callX C.1 (T := Tx) (g := g) (M := M) (rest := (o, .inl (G.2.2.1 1, 1, .inr (.inl fun _ => 0))) :: fmL Tm (g2, G.2) M2) (k := 0) (ci := 10) (d' := 6) (pc := 1152) (As := []) (st := []) cvL_186 (by decide) rfl rfl rfl (by decide) (rm_fr (by decide)) (rm_lo (by decide) (by decide)) (rm_c (k := 1000) (by decide)) (rm_s (k := 30000) (by decide)) (fm_dec dtLa_20 18 rfl) ?_
  refine x_first C.2.2.2.2.2  x1_3_9 ?_
  refine z_then1 ?_
  refine z_aloadn C.1 (pc := 1155) (n := 2) 2 rfl rfl (fm_dec dtLa_20 19 rfl) ?_
  refine z_perm (wpermW _ _ _) ?_
  refine z_callX C.1 (T := Tm) (g := g2) (M := M2) (k := 0) (ci := 11) (d' := 9) (pc := 1156) (As := []) (st := [.int ((-1))]) cvL_189 (by decide) rfl rfl rfl (Nat.le_of_ble_eq_true rfl) (rm_fr (by decide)) (rm_lo (by decide) (by decide)) (rm_c (k := 1000) (by decide)) (rm_s (k := 30000) (by decide)) (fm_dec dtLa_20 20 rfl) ?_
  refine m_first C.2.2.2.2.2  m1_4_0 (fun M3 => ?_)
  refine z_then1 ?_
  refine z_icmp_eq C.1 (pc := 1159) 2854 (by decide) (fm_dec dtLa_20 21 rfl) (fun _ => ?_) (fun h => absurd rfl h)
  exact la_end C rfl (by decide) (by decide)
set_option maxRecDepth 20000 in
theorem la_c17 {p : Program} {l : Launch} {e : Env} {s : State} {m : MethodId} {below : List Frame} {meth : Method} {c : Code} {G : fmG} {b : Nat} {xs : Nat → Int32} (C : laC p l s m meth c G b 7 xs) {g g2 : Nat → Nat} {M M2 : fmM} {o : Nat} (hx : xFresh M) (hm : mAll M2) : zEv p l e room_1 s m #[.ref b] below meth c G (fun q => s.heap.size ≤ q) 8 (lw_Z below #[.ref b] s) 1164 [some (.ref b), some (.ref (g 0)), some (.ref (g2 0)), some (.ref o), some (.int 0), none, none, none] [] (fmL Tx (g, G.2) M ++ ((o, .inl (G.2.2.1 1, 1, .inr (.inl fun _ => 0))) :: fmL Tm (g2, G.2) M2)) 1000 30000 := by
  obtain ⟨x1_3_9, x1_3_11, x1_0_13, x1_0_14, x1_0_15, x1_0_16, x1_1_1, x1_1_5, x1_34_5, x1_46_2, x1_47_1, x1_47_2, x1_47_3, x1_47_4, x1_47_5, x2_47_6, x1_27_0, x1_23_3, x1_24_0, x1_24_1, x1_24_2⟩ := hx
  obtain ⟨⟨⟨m1_4_0, m1_4_1, m1_4_2⟩, ⟨m1_7_0, m1_7_9, m1_7_10, m1_7_11, m1_7_12, m1_7_13⟩, ⟨m1_0_17, m1_0_31, m1_0_32, m1_0_33, m1_0_34⟩⟩, m1_0_1, m1_0_3, m1_2_0, m1_2_1⟩ := hm
  refine z_aloadn C.1 (pc := 1164) (n := 1) 1 rfl rfl (fm_dec dtLa_20 24 rfl) ?_
  refine z_callX C.1 (T := Tx) (g := g) (M := M) (rest := (o, .inl (G.2.2.1 1, 1, .inr (.inl fun _ => 0))) :: fmL Tm (g2, G.2) M2) (k := 0) (ci := 10) (d' := 1) (pc := 1165) (As := []) (st := []) cvL_190 (by decide) rfl rfl rfl (by decide) (rm_fr (by decide)) (rm_lo (by decide) (by decide)) (rm_c (k := 1000) (by decide)) (rm_s (k := 30000) (by decide)) (fm_dec dtLa_20 25 rfl) ?_
  refine x_lacking C.2.2.2.2.2  x1_3_9 ?_
  refine z_then1 ?_
  refine z_aloadn C.1 (pc := 1168) (n := 2) 2 rfl rfl (fm_dec dtLa_20 26 rfl) ?_
  refine z_perm (wpermW _ _ _) ?_
  refine z_callX C.1 (T := Tm) (g := g2) (M := M2) (k := 0) (ci := 11) (d' := 1) (pc := 1169) (As := []) (st := [.int (0)]) cvL_193 (by decide) rfl rfl rfl (Nat.le_of_ble_eq_true rfl) (rm_fr (by decide)) (rm_lo (by decide) (by decide)) (rm_c (k := 1000) (by decide)) (rm_s (k := 30000) (by decide)) (fm_dec dtLa_20 27 rfl) ?_
  refine m_lacking C.2.2.2.2.2  m1_4_0 (fun M3 => ?_)
  refine z_then1 ?_
  refine z_icmp_eq C.1 (pc := 1172) 2854 (by decide) (fm_dec dtLa_20 28 rfl) (fun _ => ?_) (fun h => absurd rfl h)
  exact la_end C rfl (by decide) (by decide)
set_option maxRecDepth 20000 in
theorem la_c18 {p : Program} {l : Launch} {e : Env} {s : State} {m : MethodId} {below : List Frame} {meth : Method} {c : Code} {G : fmG} {b : Nat} {xs : Nat → Int32} (C : laC p l s m meth c G b 7 xs) {g g2 : Nat → Nat} {M M2 : fmM} {o : Nat} (hx : xFresh M) (hm : mAll M2) : zEv p l e room_1 s m #[.ref b] below meth c G (fun q => s.heap.size ≤ q) 8 (lw_Z below #[.ref b] s) 1177 [some (.ref b), some (.ref (g 0)), some (.ref (g2 0)), some (.ref o), some (.int 0), none, none, none] [] (fmL Tx (g, G.2) M ++ ((o, .inl (G.2.2.1 1, 1, .inr (.inl fun _ => 0))) :: fmL Tm (g2, G.2) M2)) 1000 30000 := by
  obtain ⟨x1_3_9, x1_3_11, x1_0_13, x1_0_14, x1_0_15, x1_0_16, x1_1_1, x1_1_5, x1_34_5, x1_46_2, x1_47_1, x1_47_2, x1_47_3, x1_47_4, x1_47_5, x2_47_6, x1_27_0, x1_23_3, x1_24_0, x1_24_1, x1_24_2⟩ := hx
  obtain ⟨⟨⟨m1_4_0, m1_4_1, m1_4_2⟩, ⟨m1_7_0, m1_7_9, m1_7_10, m1_7_11, m1_7_12, m1_7_13⟩, ⟨m1_0_17, m1_0_31, m1_0_32, m1_0_33, m1_0_34⟩⟩, m1_0_1, m1_0_3, m1_2_0, m1_2_1⟩ := hm
  refine z_aloadn C.1 (pc := 1177) (n := 1) 1 rfl rfl (fm_dec dtLa_21 1 rfl) ?_
  refine z_callX C.1 (T := Tx) (g := g) (M := M) (rest := (o, .inl (G.2.2.1 1, 1, .inr (.inl fun _ => 0))) :: fmL Tm (g2, G.2) M2) (k := 0) (ci := 10) (d' := 2) (pc := 1178) (As := []) (st := []) cvL_194 (by decide) rfl rfl rfl (by decide) (rm_fr (by decide)) (rm_lo (by decide) (by decide)) (rm_c (k := 1000) (by decide)) (rm_s (k := 30000) (by decide)) (fm_dec dtLa_21 2 rfl) ?_
  refine x_signed C.2.2.2.2.2  x1_3_9 ?_
  refine z_then1 ?_
  refine z_aloadn C.1 (pc := 1181) (n := 2) 2 rfl rfl (fm_dec dtLa_21 3 rfl) ?_
  refine z_perm (wpermW _ _ _) ?_
  refine z_callX C.1 (T := Tm) (g := g2) (M := M2) (k := 0) (ci := 11) (d' := 2) (pc := 1182) (As := []) (st := [.int (0)]) cvL_197 (by decide) rfl rfl rfl (Nat.le_of_ble_eq_true rfl) (rm_fr (by decide)) (rm_lo (by decide) (by decide)) (rm_c (k := 1000) (by decide)) (rm_s (k := 30000) (by decide)) (fm_dec dtLa_21 4 rfl) ?_
  refine m_signed C.2.2.2.2.2  m1_4_0 (fun M3 => ?_)
  refine z_then1 ?_
  refine z_icmp_eq C.1 (pc := 1185) 2854 (by decide) (fm_dec dtLa_21 5 rfl) (fun _ => ?_) (fun h => absurd rfl h)
  exact la_end C rfl (by decide) (by decide)
set_option maxRecDepth 20000 in
theorem la_c19 {p : Program} {l : Launch} {e : Env} {s : State} {m : MethodId} {below : List Frame} {meth : Method} {c : Code} {G : fmG} {b : Nat} {xs : Nat → Int32} (C : laC p l s m meth c G b 7 xs) {g g2 : Nat → Nat} {M M2 : fmM} {o : Nat} (hx : xFresh M) (hm : mAll M2) : zEv p l e room_1 s m #[.ref b] below meth c G (fun q => s.heap.size ≤ q) 8 (lw_Z below #[.ref b] s) 1190 [some (.ref b), some (.ref (g 0)), some (.ref (g2 0)), some (.ref o), some (.int 0), none, none, none] [] (fmL Tx (g, G.2) M ++ ((o, .inl (G.2.2.1 1, 1, .inr (.inl fun _ => 0))) :: fmL Tm (g2, G.2) M2)) 1000 30000 := by
  obtain ⟨x1_3_9, x1_3_11, x1_0_13, x1_0_14, x1_0_15, x1_0_16, x1_1_1, x1_1_5, x1_34_5, x1_46_2, x1_47_1, x1_47_2, x1_47_3, x1_47_4, x1_47_5, x2_47_6, x1_27_0, x1_23_3, x1_24_0, x1_24_1, x1_24_2⟩ := hx
  obtain ⟨⟨⟨m1_4_0, m1_4_1, m1_4_2⟩, ⟨m1_7_0, m1_7_9, m1_7_10, m1_7_11, m1_7_12, m1_7_13⟩, ⟨m1_0_17, m1_0_31, m1_0_32, m1_0_33, m1_0_34⟩⟩, m1_0_1, m1_0_3, m1_2_0, m1_2_1⟩ := hm
  refine z_aloadn C.1 (pc := 1190) (n := 1) 1 rfl rfl (fm_dec dtLa_21 8 rfl) ?_
  refine la_arg C (pc := 1191) 1 (v := 1) rfl rfl (fm_inl (by decide)) (by decide) (by decide) (fm_dec dtLa_21 9 rfl) (fm_dec dtLa_21 10 rfl) (fm_dec dtLa_21 11 rfl) (fm_dec dtLa_21 12 rfl) (fm_dec dtLa_21 13 rfl) ?_
  refine z_aloadn C.1 (pc := 1197) (n := 3) 3 rfl rfl (fm_dec dtLa_21 14 rfl) ?_
  refine z_callW C.1 (y' := qL_stale) (hh := [(0, 9, 12, 13)]) (W0 := WX G g o (fmL Tm (g2, G.2) M2) (M, fun _ => 0)) (WW := WX G g o (fmL Tm (g2, G.2) M2)) (Q := fun r u => (((inR (xs 1) 0 65)) → r = 0 ∧ u.2 0 = (0 : Int32).toInt64) ∧ (¬ ((inR (xs 1) 0 65)) → r = 1)) (As := [.ref (g 0), .int (xs 1), .ref o]) (st := []) (pc := 1198) (fm_in 1023 (by decide +kernel) rfl) nst_L_stale niL nw_L_stale nd_L_stale rfl rfl (by decide) (show 23 ≤ room_1.frames by decide) (show 8 + (4 + 11) + 920 ≤ room_1.locals by decide) (rm_c (k := 1000) (by decide)) (rm_s (k := 30000) (by decide)) (fm_dec dtLa_21 15 rfl) (w_stale (x_stale C.2.2.2.2.2 _ x1_3_9 (fun h0 => wI_ok ⟨fun _ => ⟨rfl, rfl⟩, fun h => absurd (show (inR (xs 1) 0 65) from h0) h⟩) (fun M' hn => wI_x (⟨rfl, ⟨fun h => absurd h hn, fun _ => rfl⟩⟩)))) (fun r u hQ => ?_)
  obtain ⟨M1, f1⟩ := u
  refine z_istore C.1 (pc := 1201) (i := 5) (by decide) rfl (fm_dec dtLa_21 16 rfl) ?_
  dsimp only [List.set_cons_zero, List.set_cons_succ]
  refine z_aloadn C.1 (pc := 1203) (n := 2) 2 rfl rfl (fm_dec dtLa_21 17 rfl) ?_
  refine la_arg C (pc := 1204) 1 (v := 1) rfl rfl (fm_inl (by decide)) (by decide) (by decide) (fm_dec dtLa_21 18 rfl) (fm_dec dtLa_21 19 rfl) (fm_dec dtLa_21 20 rfl) (fm_dec dtLa_21 21 rfl) (fm_dec dtLa_21 22 rfl) ?_
  refine z_perm (ws := fmL Tx (g, G.2) M1 ++ ((o, .inl (G.2.2.1 1, 1, .inr (.inl f1))) :: fmL Tm (g2, G.2) M2)) (wpermW _ _ _) ?_
  refine z_callX C.1 (T := Tm) (g := g2) (M := M2) (k := 0) (ci := 11) (d' := 6) (pc := 1210) (As := [.int (xs 1)]) (st := []) cvL_200 (by decide) rfl rfl rfl (by decide) (rm_fr (by decide)) (rm_lo (by decide) (by decide)) (rm_c (k := 1001) (by decide)) (rm_s (k := 30006) (by decide)) (fm_dec dtLa_21 23 rfl) ?_
  refine m_stale C.2.2.2.2.2 _ m1_4_0 (fun M3 ht hp => ?_) (fun r9 M3 ht hn => ?_)
  · refine z_then1 ?_
    refine z_istore C.1 (pc := 1213) (i := 6) (by decide) rfl (fm_dec dtLa_21 24 rfl) ?_
    dsimp only [List.set_cons_zero, List.set_cons_succ]
    exact la_tailI C (pc := 1215) (by decide) (by decide) (v := 0) ((inR (xs 1) 0 65)) (show (1 : Int32) ≠ 0 by decide) hQ.1 hQ.2 (fun _ => ⟨ht, rfl⟩) (fun h => absurd hp h) (fm_dec dtLa_21 25 rfl) (fm_dec dtLa_21 26 rfl) (fm_dec dtLa_21 27 rfl) (fm_dec dtLa_21 28 rfl) (fm_dec dtLa_22 1 rfl) (fm_dec dtLa_22 2 rfl) (fm_dec dtLa_22 3 rfl) (fm_dec dtLa_22 4 rfl) (fm_dec dtLa_22 5 rfl) (fm_dec dtLa_22 6 rfl) (fm_dec dtLa_22 7 rfl) (fm_dec dtLa_22 8 rfl) (fm_dec dtLa_22 9 rfl) (by decide) (fm_dec dtLa_22 12 rfl)
  · refine z_then1 ?_
    refine z_istore C.1 (pc := 1213) (i := 6) (by decide) rfl (fm_dec dtLa_21 24 rfl) ?_
    dsimp only [List.set_cons_zero, List.set_cons_succ]
    exact la_tailI C (pc := 1215) (by decide) (by decide) (v := 0) ((inR (xs 1) 0 65)) (show (1 : Int32) ≠ 0 by decide) hQ.1 hQ.2 (fun h => absurd h hn) (fun _ => ht) (fm_dec dtLa_21 25 rfl) (fm_dec dtLa_21 26 rfl) (fm_dec dtLa_21 27 rfl) (fm_dec dtLa_21 28 rfl) (fm_dec dtLa_22 1 rfl) (fm_dec dtLa_22 2 rfl) (fm_dec dtLa_22 3 rfl) (fm_dec dtLa_22 4 rfl) (fm_dec dtLa_22 5 rfl) (fm_dec dtLa_22 6 rfl) (fm_dec dtLa_22 7 rfl) (fm_dec dtLa_22 8 rfl) (fm_dec dtLa_22 9 rfl) (by decide) (fm_dec dtLa_22 12 rfl)
set_option maxRecDepth 20000 in
theorem la_c20 {p : Program} {l : Launch} {e : Env} {s : State} {m : MethodId} {below : List Frame} {meth : Method} {c : Code} {G : fmG} {b : Nat} {xs : Nat → Int32} (C : laC p l s m meth c G b 7 xs) {g g2 : Nat → Nat} {M M2 : fmM} {o : Nat} (hx : xFresh M) (hm : mAll M2) : zEv p l e room_1 s m #[.ref b] below meth c G (fun q => s.heap.size ≤ q) 8 (lw_Z below #[.ref b] s) 1246 [some (.ref b), some (.ref (g 0)), some (.ref (g2 0)), some (.ref o), some (.int 0), none, none, none] [] (fmL Tx (g, G.2) M ++ ((o, .inl (G.2.2.1 1, 1, .inr (.inl fun _ => 0))) :: fmL Tm (g2, G.2) M2)) 1000 30000 := by
  obtain ⟨x1_3_9, x1_3_11, x1_0_13, x1_0_14, x1_0_15, x1_0_16, x1_1_1, x1_1_5, x1_34_5, x1_46_2, x1_47_1, x1_47_2, x1_47_3, x1_47_4, x1_47_5, x2_47_6, x1_27_0, x1_23_3, x1_24_0, x1_24_1, x1_24_2⟩ := hx
  obtain ⟨⟨⟨m1_4_0, m1_4_1, m1_4_2⟩, ⟨m1_7_0, m1_7_9, m1_7_10, m1_7_11, m1_7_12, m1_7_13⟩, ⟨m1_0_17, m1_0_31, m1_0_32, m1_0_33, m1_0_34⟩⟩, m1_0_1, m1_0_3, m1_2_0, m1_2_1⟩ := hm
  refine z_aloadn C.1 (pc := 1246) (n := 1) 1 rfl rfl (fm_dec dtLa_22 13 rfl) ?_
  refine la_arg C (pc := 1247) 1 (v := 1) rfl rfl (fm_inl (by decide)) (by decide) (by decide) (fm_dec dtLa_22 14 rfl) (fm_dec dtLa_22 15 rfl) (fm_dec dtLa_22 16 rfl) (fm_dec dtLa_22 17 rfl) (fm_dec dtLa_22 18 rfl) ?_
  refine la_arg C (pc := 1253) 2 (v := 2) rfl rfl (fm_inl (by decide)) (by decide) (by decide) (fm_dec dtLa_22 19 rfl) (fm_dec dtLa_22 20 rfl) (fm_dec dtLa_22 21 rfl) (fm_dec dtLa_22 22 rfl) (fm_dec dtLa_22 23 rfl) ?_
  refine z_aloadn C.1 (pc := 1259) (n := 3) 3 rfl rfl (fm_dec dtLa_22 24 rfl) ?_
  refine z_callW C.1 (y' := qL_best) (hh := [(0, 9, 12, 13)]) (W0 := WX G g o (fmL Tm (g2, G.2) M2) (M, fun _ => 0)) (WW := WX G g o (fmL Tm (g2, G.2) M2)) (Q := fun r u => (((inR (xs 1) 1 3 ∧ inR (xs 2) 0 1)) → r = 0 ∧ u.2 0 = ((if (xs 2) = 0 then 0 else 1) : Int64)) ∧ (¬ ((inR (xs 1) 1 3 ∧ inR (xs 2) 0 1)) → r = 1)) (As := [.ref (g 0), .int (xs 1), .int (xs 2), .ref o]) (st := []) (pc := 1260) (fm_in 1034 (by decide +kernel) rfl) nst_L_best niL nw_L_best nd_L_best rfl rfl (by decide) (show 23 ≤ room_1.frames by decide) (show 8 + (5 + 11) + 920 ≤ room_1.locals by decide) (rm_c (k := 1000) (by decide)) (rm_s (k := 30000) (by decide)) (fm_dec dtLa_22 25 rfl) (w_best (x_best C.2.2.2.2.2 _ _ x1_3_9 x1_34_5 x1_47_3 x1_3_11 (fun M' h0 h1 => wJ_ok ⟨fun _ => ⟨rfl, rfl⟩, fun h => absurd (show (inR (xs 1) 1 3 ∧ inR (xs 2) 0 1) from ⟨h0, h1⟩) h⟩) (fun M' hn => wJ_x (⟨rfl, ⟨fun h => absurd h hn, fun _ => rfl⟩⟩)))) (fun r u hQ => ?_)
  obtain ⟨M1, f1⟩ := u
  refine z_istore C.1 (pc := 1263) (i := 5) (by decide) rfl (fm_dec dtLa_22 26 rfl) ?_
  dsimp only [List.set_cons_zero, List.set_cons_succ]
  refine z_aloadn C.1 (pc := 1265) (n := 2) 2 rfl rfl (fm_dec dtLa_22 27 rfl) ?_
  refine la_arg C (pc := 1266) 1 (v := 1) rfl rfl (fm_inl (by decide)) (by decide) (by decide) (fm_dec dtLa_22 28 rfl) (fm_dec dtLa_22 29 rfl) (fm_dec dtLa_23 0 rfl) (fm_dec dtLa_23 1 rfl) (fm_dec dtLa_23 2 rfl) ?_
  refine la_arg C (pc := 1272) 2 (v := 2) rfl rfl (fm_inl (by decide)) (by decide) (by decide) (fm_dec dtLa_23 3 rfl) (fm_dec dtLa_23 4 rfl) (fm_dec dtLa_23 5 rfl) (fm_dec dtLa_23 6 rfl) (fm_dec dtLa_23 7 rfl) ?_
  refine z_perm (ws := fmL Tx (g, G.2) M1 ++ ((o, .inl (G.2.2.1 1, 1, .inr (.inl f1))) :: fmL Tm (g2, G.2) M2)) (wpermW _ _ _) ?_
  refine z_callX C.1 (T := Tm) (g := g2) (M := M2) (k := 0) (ci := 11) (d' := 8) (pc := 1278) (As := [.int (xs 1), .int (xs 2)]) (st := []) cvL_203 (by decide) rfl rfl rfl (by decide) (rm_fr (by decide)) (rm_lo (by decide) (by decide)) (rm_c (k := 1001) (by decide)) (rm_s (k := 30006) (by decide)) (fm_dec dtLa_23 8 rfl) ?_
  refine m_best C.2.2.2.2.2 _ _ m1_4_0 m1_4_2 m1_7_9 (fun M3 ht hp => ?_) (fun r9 M3 ht hn => ?_)
  · refine z_then1 ?_
    refine z_lstore C.1 (pc := 1281) (i := 6) (by decide) rfl (fm_dec dtLa_23 9 rfl) ?_
    dsimp only [List.set_cons_zero, List.set_cons_succ]
    exact la_tailJ C (pc := 1283) (by decide) (by decide) (v := (if (xs 2) = 0 then 0 else 1)) ((inR (xs 1) 1 3 ∧ inR (xs 2) 0 1)) (show (1 : Int32) ≠ 0 by decide) hQ.1 hQ.2 (fun _ => ⟨ht, rfl⟩) (fun h => absurd hp h) (fm_dec dtLa_23 10 rfl) (fm_dec dtLa_23 11 rfl) (fm_dec dtLa_23 12 rfl) (fm_dec dtLa_23 13 rfl) (fm_dec dtLa_23 16 rfl) (fm_dec dtLa_23 17 rfl) (fm_dec dtLa_23 18 rfl) (fm_dec dtLa_23 19 rfl) (fm_dec dtLa_23 20 rfl) (fm_dec dtLa_23 21 rfl) (fm_dec dtLa_23 22 rfl) (fm_dec dtLa_23 23 rfl) (by decide) (fm_dec dtLa_23 26 rfl)
  · refine z_then1 ?_
    refine z_lstore C.1 (pc := 1281) (i := 6) (by decide) rfl (fm_dec dtLa_23 9 rfl) ?_
    dsimp only [List.set_cons_zero, List.set_cons_succ]
    exact la_tailJ C (pc := 1283) (by decide) (by decide) (v := (if (xs 2) = 0 then 0 else 1)) ((inR (xs 1) 1 3 ∧ inR (xs 2) 0 1)) (show (1 : Int32) ≠ 0 by decide) hQ.1 hQ.2 (fun h => absurd h hn) (fun _ => ht) (fm_dec dtLa_23 10 rfl) (fm_dec dtLa_23 11 rfl) (fm_dec dtLa_23 12 rfl) (fm_dec dtLa_23 13 rfl) (fm_dec dtLa_23 16 rfl) (fm_dec dtLa_23 17 rfl) (fm_dec dtLa_23 18 rfl) (fm_dec dtLa_23 19 rfl) (fm_dec dtLa_23 20 rfl) (fm_dec dtLa_23 21 rfl) (fm_dec dtLa_23 22 rfl) (fm_dec dtLa_23 23 rfl) (by decide) (fm_dec dtLa_23 26 rfl)
set_option maxRecDepth 20000 in
theorem la_c21 {p : Program} {l : Launch} {e : Env} {s : State} {m : MethodId} {below : List Frame} {meth : Method} {c : Code} {G : fmG} {b : Nat} {xs : Nat → Int32} (C : laC p l s m meth c G b 7 xs) {g g2 : Nat → Nat} {M M2 : fmM} {o : Nat} (hx : xFresh M) (hm : mAll M2) : zEv p l e room_1 s m #[.ref b] below meth c G (fun q => s.heap.size ≤ q) 8 (lw_Z below #[.ref b] s) 1313 [some (.ref b), some (.ref (g 0)), some (.ref (g2 0)), some (.ref o), some (.int 0), none, none, none] [] (fmL Tx (g, G.2) M ++ ((o, .inl (G.2.2.1 1, 1, .inr (.inl fun _ => 0))) :: fmL Tm (g2, G.2) M2)) 1000 30000 := by
  obtain ⟨x1_3_9, x1_3_11, x1_0_13, x1_0_14, x1_0_15, x1_0_16, x1_1_1, x1_1_5, x1_34_5, x1_46_2, x1_47_1, x1_47_2, x1_47_3, x1_47_4, x1_47_5, x2_47_6, x1_27_0, x1_23_3, x1_24_0, x1_24_1, x1_24_2⟩ := hx
  obtain ⟨⟨⟨m1_4_0, m1_4_1, m1_4_2⟩, ⟨m1_7_0, m1_7_9, m1_7_10, m1_7_11, m1_7_12, m1_7_13⟩, ⟨m1_0_17, m1_0_31, m1_0_32, m1_0_33, m1_0_34⟩⟩, m1_0_1, m1_0_3, m1_2_0, m1_2_1⟩ := hm
  refine z_aloadn C.1 (pc := 1313) (n := 1) 1 rfl rfl (fm_dec dtLa_23 27 rfl) ?_
  refine la_arg C (pc := 1314) 1 (v := 1) rfl rfl (fm_inl (by decide)) (by decide) (by decide) (fm_dec dtLa_23 28 rfl) (fm_dec dtLa_23 29 rfl) (fm_dec dtLa_24 0 rfl) (fm_dec dtLa_24 1 rfl) (fm_dec dtLa_24 2 rfl) ?_
  refine la_arg C (pc := 1320) 2 (v := 2) rfl rfl (fm_inl (by decide)) (by decide) (by decide) (fm_dec dtLa_24 3 rfl) (fm_dec dtLa_24 4 rfl) (fm_dec dtLa_24 5 rfl) (fm_dec dtLa_24 6 rfl) (fm_dec dtLa_24 7 rfl) ?_
  refine z_aloadn C.1 (pc := 1326) (n := 3) 3 rfl rfl (fm_dec dtLa_24 8 rfl) ?_
  refine z_callW C.1 (y' := qL_bestIn) (hh := [(0, 10, 13, 13)]) (W0 := WX G g o (fmL Tm (g2, G.2) M2) (M, fun _ => 0)) (WW := WX G g o (fmL Tm (g2, G.2) M2)) (Q := fun r u => (((inR (xs 1) 1 3 ∧ inR (xs 2) 0 ((xs 1) - 1))) → r = 0 ∧ u.2 0 = (0 : Int32).toInt64) ∧ (¬ ((inR (xs 1) 1 3 ∧ inR (xs 2) 0 ((xs 1) - 1))) → r = 1)) (As := [.ref (g 0), .int (xs 1), .int (xs 2), .ref o]) (st := []) (pc := 1327) (fm_in 1085 (by decide +kernel) rfl) nst_L_bestIn niL nw_L_bestIn nd_L_bestIn rfl rfl (by decide) (show 23 ≤ room_1.frames by decide) (show 8 + (5 + 11) + 920 ≤ room_1.locals by decide) (rm_c (k := 1000) (by decide)) (rm_s (k := 30000) (by decide)) (fm_dec dtLa_24 9 rfl) (w_bestIn (x_bestIn C.2.2.2.2.2 _ _ x1_3_9 x1_34_5 x1_47_3 x1_3_11 (fun M' h0 h1 => wI_ok ⟨fun _ => ⟨rfl, rfl⟩, fun h => absurd (show (inR (xs 1) 1 3 ∧ inR (xs 2) 0 ((xs 1) - 1)) from ⟨h0, h1⟩) h⟩) (fun M' hn => wI_x (⟨rfl, ⟨fun h => absurd h hn, fun _ => rfl⟩⟩)))) (fun r u hQ => ?_)
  obtain ⟨M1, f1⟩ := u
  refine z_istore C.1 (pc := 1330) (i := 5) (by decide) rfl (fm_dec dtLa_24 10 rfl) ?_
  dsimp only [List.set_cons_zero, List.set_cons_succ]
  refine z_aloadn C.1 (pc := 1332) (n := 2) 2 rfl rfl (fm_dec dtLa_24 11 rfl) ?_
  refine la_arg C (pc := 1333) 1 (v := 1) rfl rfl (fm_inl (by decide)) (by decide) (by decide) (fm_dec dtLa_24 12 rfl) (fm_dec dtLa_24 13 rfl) (fm_dec dtLa_24 14 rfl) (fm_dec dtLa_24 15 rfl) (fm_dec dtLa_24 16 rfl) ?_
  refine la_arg C (pc := 1339) 2 (v := 2) rfl rfl (fm_inl (by decide)) (by decide) (by decide) (fm_dec dtLa_24 17 rfl) (fm_dec dtLa_24 18 rfl) (fm_dec dtLa_24 19 rfl) (fm_dec dtLa_24 20 rfl) (fm_dec dtLa_24 21 rfl) ?_
  refine z_perm (ws := fmL Tx (g, G.2) M1 ++ ((o, .inl (G.2.2.1 1, 1, .inr (.inl f1))) :: fmL Tm (g2, G.2) M2)) (wpermW _ _ _) ?_
  refine z_callX C.1 (T := Tm) (g := g2) (M := M2) (k := 0) (ci := 11) (d' := 8) (pc := 1345) (As := [.int (xs 1), .int (xs 2)]) (st := []) cvL_206 (by decide) rfl rfl rfl (by decide) (rm_fr (by decide)) (rm_lo (by decide) (by decide)) (rm_c (k := 1001) (by decide)) (rm_s (k := 30006) (by decide)) (fm_dec dtLa_24 22 rfl) ?_
  refine m_bestIn C.2.2.2.2.2 _ _ m1_4_0 m1_4_2 m1_7_9 (fun M3 ht hp => ?_) (fun r9 M3 ht hn => ?_)
  · refine z_then1 ?_
    refine z_istore C.1 (pc := 1348) (i := 6) (by decide) rfl (fm_dec dtLa_24 23 rfl) ?_
    dsimp only [List.set_cons_zero, List.set_cons_succ]
    exact la_tailI C (pc := 1350) (by decide) (by decide) (v := 0) ((inR (xs 1) 1 3 ∧ inR (xs 2) 0 ((xs 1) - 1))) (show (1 : Int32) ≠ 0 by decide) hQ.1 hQ.2 (fun _ => ⟨ht, rfl⟩) (fun h => absurd hp h) (fm_dec dtLa_24 24 rfl) (fm_dec dtLa_24 25 rfl) (fm_dec dtLa_24 26 rfl) (fm_dec dtLa_24 27 rfl) (fm_dec dtLa_25 0 rfl) (fm_dec dtLa_25 1 rfl) (fm_dec dtLa_25 2 rfl) (fm_dec dtLa_25 3 rfl) (fm_dec dtLa_25 4 rfl) (fm_dec dtLa_25 5 rfl) (fm_dec dtLa_25 6 rfl) (fm_dec dtLa_25 7 rfl) (fm_dec dtLa_25 8 rfl) (by decide) (fm_dec dtLa_25 11 rfl)
  · refine z_then1 ?_
    refine z_istore C.1 (pc := 1348) (i := 6) (by decide) rfl (fm_dec dtLa_24 23 rfl) ?_
    dsimp only [List.set_cons_zero, List.set_cons_succ]
    exact la_tailI C (pc := 1350) (by decide) (by decide) (v := 0) ((inR (xs 1) 1 3 ∧ inR (xs 2) 0 ((xs 1) - 1))) (show (1 : Int32) ≠ 0 by decide) hQ.1 hQ.2 (fun h => absurd h hn) (fun _ => ht) (fm_dec dtLa_24 24 rfl) (fm_dec dtLa_24 25 rfl) (fm_dec dtLa_24 26 rfl) (fm_dec dtLa_24 27 rfl) (fm_dec dtLa_25 0 rfl) (fm_dec dtLa_25 1 rfl) (fm_dec dtLa_25 2 rfl) (fm_dec dtLa_25 3 rfl) (fm_dec dtLa_25 4 rfl) (fm_dec dtLa_25 5 rfl) (fm_dec dtLa_25 6 rfl) (fm_dec dtLa_25 7 rfl) (fm_dec dtLa_25 8 rfl) (by decide) (fm_dec dtLa_25 11 rfl)
set_option maxRecDepth 20000 in
theorem la_c22 {p : Program} {l : Launch} {e : Env} {s : State} {m : MethodId} {below : List Frame} {meth : Method} {c : Code} {G : fmG} {b : Nat} {xs : Nat → Int32} (C : laC p l s m meth c G b 7 xs) {g g2 : Nat → Nat} {M M2 : fmM} {o : Nat} (hx : xFresh M) (hm : mAll M2) : zEv p l e room_1 s m #[.ref b] below meth c G (fun q => s.heap.size ≤ q) 8 (lw_Z below #[.ref b] s) 1381 [some (.ref b), some (.ref (g 0)), some (.ref (g2 0)), some (.ref o), some (.int 0), none, none, none] [] (fmL Tx (g, G.2) M ++ ((o, .inl (G.2.2.1 1, 1, .inr (.inl fun _ => 0))) :: fmL Tm (g2, G.2) M2)) 1000 30000 := by
  obtain ⟨x1_3_9, x1_3_11, x1_0_13, x1_0_14, x1_0_15, x1_0_16, x1_1_1, x1_1_5, x1_34_5, x1_46_2, x1_47_1, x1_47_2, x1_47_3, x1_47_4, x1_47_5, x2_47_6, x1_27_0, x1_23_3, x1_24_0, x1_24_1, x1_24_2⟩ := hx
  obtain ⟨⟨⟨m1_4_0, m1_4_1, m1_4_2⟩, ⟨m1_7_0, m1_7_9, m1_7_10, m1_7_11, m1_7_12, m1_7_13⟩, ⟨m1_0_17, m1_0_31, m1_0_32, m1_0_33, m1_0_34⟩⟩, m1_0_1, m1_0_3, m1_2_0, m1_2_1⟩ := hm
  refine z_aloadn C.1 (pc := 1381) (n := 1) 1 rfl rfl (fm_dec dtLa_25 12 rfl) ?_
  refine la_arg C (pc := 1382) 1 (v := 1) rfl rfl (fm_inl (by decide)) (by decide) (by decide) (fm_dec dtLa_25 13 rfl) (fm_dec dtLa_25 14 rfl) (fm_dec dtLa_25 15 rfl) (fm_dec dtLa_25 16 rfl) (fm_dec dtLa_25 17 rfl) ?_
  refine la_arg C (pc := 1388) 2 (v := 2) rfl rfl (fm_inl (by decide)) (by decide) (by decide) (fm_dec dtLa_25 18 rfl) (fm_dec dtLa_25 19 rfl) (fm_dec dtLa_25 20 rfl) (fm_dec dtLa_25 21 rfl) (fm_dec dtLa_25 22 rfl) ?_
  refine z_aloadn C.1 (pc := 1394) (n := 3) 3 rfl rfl (fm_dec dtLa_25 23 rfl) ?_
  refine z_callW C.1 (y' := qL_often) (hh := [(0, 10, 13, 31), (0, 10, 17, 13)]) (W0 := WX G g o (fmL Tm (g2, G.2) M2) (M, fun _ => 0)) (WW := WX G g o (fmL Tm (g2, G.2) M2)) (Q := fun r u => ((False) → r = 0 ∧ u.2 0 = (0 : Int32).toInt64) ∧ (¬ (False) → r = 1)) (As := [.ref (g 0), .int (xs 1), .int (xs 2), .ref o]) (st := []) (pc := 1395) (fm_in 1096 (by decide +kernel) rfl) nst_L_often niL nw_L_often nd_L_often rfl rfl (by decide) (show 23 ≤ room_1.frames by decide) (show 8 + (5 + 11) + 920 ≤ room_1.locals by decide) (rm_c (k := 1000) (by decide)) (rm_s (k := 30000) (by decide)) (fm_dec dtLa_25 24 rfl) (w_often (x_often C.2.2.2.2.2 _ _ x1_3_9 (fun M' => wI_x (Or.inl ⟨rfl, ⟨fun h => h.elim, fun _ => rfl⟩⟩)))) (fun r u hQ => ?_)
  obtain ⟨M1, f1⟩ := u
  refine z_istore C.1 (pc := 1398) (i := 5) (by decide) rfl (fm_dec dtLa_25 25 rfl) ?_
  dsimp only [List.set_cons_zero, List.set_cons_succ]
  refine z_aloadn C.1 (pc := 1400) (n := 2) 2 rfl rfl (fm_dec dtLa_25 26 rfl) ?_
  refine la_arg C (pc := 1401) 1 (v := 1) rfl rfl (fm_inl (by decide)) (by decide) (by decide) (fm_dec dtLa_25 27 rfl) (fm_dec dtLa_25 28 rfl) (fm_dec dtLa_25 29 rfl) (fm_dec dtLa_26 0 rfl) (fm_dec dtLa_26 1 rfl) ?_
  refine la_arg C (pc := 1407) 2 (v := 2) rfl rfl (fm_inl (by decide)) (by decide) (by decide) (fm_dec dtLa_26 2 rfl) (fm_dec dtLa_26 3 rfl) (fm_dec dtLa_26 4 rfl) (fm_dec dtLa_26 5 rfl) (fm_dec dtLa_26 6 rfl) ?_
  refine z_perm (ws := fmL Tx (g, G.2) M1 ++ ((o, .inl (G.2.2.1 1, 1, .inr (.inl f1))) :: fmL Tm (g2, G.2) M2)) (wpermW _ _ _) ?_
  refine z_callX C.1 (T := Tm) (g := g2) (M := M2) (k := 0) (ci := 11) (d' := 5) (pc := 1413) (As := [.int (xs 1), .int (xs 2)]) (st := []) cvL_209 (by decide) rfl rfl rfl (by decide) (rm_fr (by decide)) (rm_lo (by decide) (by decide)) (rm_c (k := 1001) (by decide)) (rm_s (k := 30006) (by decide)) (fm_dec dtLa_26 7 rfl) ?_
  refine m_often C.2.2.2.2.2 _ _ m1_4_0 (fun r9 M3 ht => ?_)
  refine z_then1 ?_
  refine z_istore C.1 (pc := 1416) (i := 6) (by decide) rfl (fm_dec dtLa_26 8 rfl) ?_
  dsimp only [List.set_cons_zero, List.set_cons_succ]
  exact la_tailI C (pc := 1418) (by decide) (by decide) (v := 0) (False) (show (1 : Int32) ≠ 0 by decide) hQ.1 hQ.2 (fun h => h.elim) (fun _ => ht) (fm_dec dtLa_26 9 rfl) (fm_dec dtLa_26 10 rfl) (fm_dec dtLa_26 11 rfl) (fm_dec dtLa_26 12 rfl) (fm_dec dtLa_26 15 rfl) (fm_dec dtLa_26 16 rfl) (fm_dec dtLa_26 17 rfl) (fm_dec dtLa_26 18 rfl) (fm_dec dtLa_26 19 rfl) (fm_dec dtLa_26 20 rfl) (fm_dec dtLa_26 21 rfl) (fm_dec dtLa_26 22 rfl) (fm_dec dtLa_26 23 rfl) (by decide) (fm_dec dtLa_26 26 rfl)
set_option maxRecDepth 20000 in
theorem la_c23 {p : Program} {l : Launch} {e : Env} {s : State} {m : MethodId} {below : List Frame} {meth : Method} {c : Code} {G : fmG} {b : Nat} {xs : Nat → Int32} (C : laC p l s m meth c G b 7 xs) {g g2 : Nat → Nat} {M M2 : fmM} {o : Nat} (hx : xFresh M) (hm : mAll M2) : zEv p l e room_1 s m #[.ref b] below meth c G (fun q => s.heap.size ≤ q) 8 (lw_Z below #[.ref b] s) 1449 [some (.ref b), some (.ref (g 0)), some (.ref (g2 0)), some (.ref o), some (.int 0), none, none, none] [] (fmL Tx (g, G.2) M ++ ((o, .inl (G.2.2.1 1, 1, .inr (.inl fun _ => 0))) :: fmL Tm (g2, G.2) M2)) 1000 30000 := by
  obtain ⟨x1_3_9, x1_3_11, x1_0_13, x1_0_14, x1_0_15, x1_0_16, x1_1_1, x1_1_5, x1_34_5, x1_46_2, x1_47_1, x1_47_2, x1_47_3, x1_47_4, x1_47_5, x2_47_6, x1_27_0, x1_23_3, x1_24_0, x1_24_1, x1_24_2⟩ := hx
  obtain ⟨⟨⟨m1_4_0, m1_4_1, m1_4_2⟩, ⟨m1_7_0, m1_7_9, m1_7_10, m1_7_11, m1_7_12, m1_7_13⟩, ⟨m1_0_17, m1_0_31, m1_0_32, m1_0_33, m1_0_34⟩⟩, m1_0_1, m1_0_3, m1_2_0, m1_2_1⟩ := hm
  refine z_aloadn C.1 (pc := 1449) (n := 1) 1 rfl rfl (fm_dec dtLa_26 27 rfl) ?_
  refine la_arg C (pc := 1450) 1 (v := 1) rfl rfl (fm_inl (by decide)) (by decide) (by decide) (fm_dec dtLa_26 28 rfl) (fm_dec dtLa_26 29 rfl) (fm_dec dtLa_27 0 rfl) (fm_dec dtLa_27 1 rfl) (fm_dec dtLa_27 2 rfl) ?_
  refine la_arg C (pc := 1456) 2 (v := 2) rfl rfl (fm_inl (by decide)) (by decide) (by decide) (fm_dec dtLa_27 3 rfl) (fm_dec dtLa_27 4 rfl) (fm_dec dtLa_27 5 rfl) (fm_dec dtLa_27 6 rfl) (fm_dec dtLa_27 7 rfl) ?_
  refine la_arg C (pc := 1462) 3 (v := 3) rfl rfl (fm_inl (by decide)) (by decide) (by decide) (fm_dec dtLa_27 8 rfl) (fm_dec dtLa_27 9 rfl) (fm_dec dtLa_27 10 rfl) (fm_dec dtLa_27 11 rfl) (fm_dec dtLa_27 12 rfl) ?_
  refine la_arg C (pc := 1468) 4 (v := 4) rfl rfl (fm_inl (by decide)) (by decide) (by decide) (fm_dec dtLa_27 13 rfl) (fm_dec dtLa_27 14 rfl) (fm_dec dtLa_27 15 rfl) (fm_dec dtLa_27 16 rfl) (fm_dec dtLa_27 17 rfl) ?_
  refine z_aloadn C.1 (pc := 1474) (n := 3) 3 rfl rfl (fm_dec dtLa_27 18 rfl) ?_
  refine z_callW C.1 (y' := qL_yearly) (hh := [(0, 13, 16, 31), (0, 13, 20, 13)]) (W0 := WX G g o (fmL Tm (g2, G.2) M2) (M, fun _ => 0)) (WW := WX G g o (fmL Tm (g2, G.2) M2)) (Q := fun r u => ((False) → r = 0 ∧ u.2 0 = (0 : Int64)) ∧ (¬ (False) → r = 1)) (As := [.ref (g 0), .int (xs 1), .int (xs 2), .int (xs 3), .int (xs 4), .ref o]) (st := []) (pc := 1475) (fm_in 1111 (by decide +kernel) rfl) nst_L_yearly niL nw_L_yearly nd_L_yearly rfl rfl (by decide) (show 23 ≤ room_1.frames by decide) (show 8 + (7 + 11) + 920 ≤ room_1.locals by decide) (rm_c (k := 1000) (by decide)) (rm_s (k := 30000) (by decide)) (fm_dec dtLa_27 19 rfl) (w_yearly (x_yearly C.2.2.2.2.2 _ _ _ _ x1_3_9 (fun M' => wJ_x (Or.inl ⟨rfl, ⟨fun h => h.elim, fun _ => rfl⟩⟩)))) (fun r u hQ => ?_)
  obtain ⟨M1, f1⟩ := u
  refine z_istore C.1 (pc := 1478) (i := 5) (by decide) rfl (fm_dec dtLa_27 20 rfl) ?_
  dsimp only [List.set_cons_zero, List.set_cons_succ]
  refine z_aloadn C.1 (pc := 1480) (n := 2) 2 rfl rfl (fm_dec dtLa_27 21 rfl) ?_
  refine la_arg C (pc := 1481) 1 (v := 1) rfl rfl (fm_inl (by decide)) (by decide) (by decide) (fm_dec dtLa_27 22 rfl) (fm_dec dtLa_27 23 rfl) (fm_dec dtLa_27 24 rfl) (fm_dec dtLa_27 25 rfl) (fm_dec dtLa_27 26 rfl) ?_
  refine la_arg C (pc := 1487) 2 (v := 2) rfl rfl (fm_inl (by decide)) (by decide) (by decide) (fm_dec dtLa_27 27 rfl) (fm_dec dtLa_27 28 rfl) (fm_dec dtLa_27 29 rfl) (fm_dec dtLa_28 0 rfl) (fm_dec dtLa_28 1 rfl) ?_
  refine la_arg C (pc := 1493) 3 (v := 3) rfl rfl (fm_inl (by decide)) (by decide) (by decide) (fm_dec dtLa_28 2 rfl) (fm_dec dtLa_28 3 rfl) (fm_dec dtLa_28 4 rfl) (fm_dec dtLa_28 5 rfl) (fm_dec dtLa_28 6 rfl) ?_
  refine la_arg C (pc := 1499) 4 (v := 4) rfl rfl (fm_inl (by decide)) (by decide) (by decide) (fm_dec dtLa_28 7 rfl) (fm_dec dtLa_28 8 rfl) (fm_dec dtLa_28 9 rfl) (fm_dec dtLa_28 10 rfl) (fm_dec dtLa_28 11 rfl) ?_
  refine z_perm (ws := fmL Tx (g, G.2) M1 ++ ((o, .inl (G.2.2.1 1, 1, .inr (.inl f1))) :: fmL Tm (g2, G.2) M2)) (wpermW _ _ _) ?_
  refine z_callX C.1 (T := Tm) (g := g2) (M := M2) (k := 0) (ci := 11) (d' := 5) (pc := 1505) (As := [.int (xs 1), .int (xs 2), .int (xs 3), .int (xs 4)]) (st := []) cvL_213 (by decide) rfl rfl rfl (by decide) (rm_fr (by decide)) (rm_lo (by decide) (by decide)) (rm_c (k := 1001) (by decide)) (rm_s (k := 30006) (by decide)) (fm_dec dtLa_28 12 rfl) ?_
  refine m_yearly C.2.2.2.2.2 _ _ _ _ m1_4_0 (fun r9 M3 ht => ?_)
  refine z_then1 ?_
  refine z_lstore C.1 (pc := 1508) (i := 6) (by decide) rfl (fm_dec dtLa_28 13 rfl) ?_
  dsimp only [List.set_cons_zero, List.set_cons_succ]
  exact la_tailJ C (pc := 1510) (by decide) (by decide) (v := 0) (False) (show (1 : Int32) ≠ 0 by decide) hQ.1 hQ.2 (fun h => h.elim) (fun _ => ht) (fm_dec dtLa_28 14 rfl) (fm_dec dtLa_28 15 rfl) (fm_dec dtLa_28 16 rfl) (fm_dec dtLa_28 17 rfl) (fm_dec dtLa_28 20 rfl) (fm_dec dtLa_28 21 rfl) (fm_dec dtLa_28 22 rfl) (fm_dec dtLa_28 23 rfl) (fm_dec dtLa_28 24 rfl) (fm_dec dtLa_28 25 rfl) (fm_dec dtLa_28 26 rfl) (fm_dec dtLa_28 27 rfl) (by decide) (fm_dec dtLa_29 0 rfl)
set_option maxRecDepth 20000 in
theorem la_c24 {p : Program} {l : Launch} {e : Env} {s : State} {m : MethodId} {below : List Frame} {meth : Method} {c : Code} {G : fmG} {b : Nat} {xs : Nat → Int32} (C : laC p l s m meth c G b 7 xs) {g g2 : Nat → Nat} {M M2 : fmM} {o : Nat} (hx : xFresh M) (hm : mAll M2) : zEv p l e room_1 s m #[.ref b] below meth c G (fun q => s.heap.size ≤ q) 8 (lw_Z below #[.ref b] s) 1540 [some (.ref b), some (.ref (g 0)), some (.ref (g2 0)), some (.ref o), some (.int 0), none, none, none] [] (fmL Tx (g, G.2) M ++ ((o, .inl (G.2.2.1 1, 1, .inr (.inl fun _ => 0))) :: fmL Tm (g2, G.2) M2)) 1000 30000 := by
  obtain ⟨x1_3_9, x1_3_11, x1_0_13, x1_0_14, x1_0_15, x1_0_16, x1_1_1, x1_1_5, x1_34_5, x1_46_2, x1_47_1, x1_47_2, x1_47_3, x1_47_4, x1_47_5, x2_47_6, x1_27_0, x1_23_3, x1_24_0, x1_24_1, x1_24_2⟩ := hx
  obtain ⟨⟨⟨m1_4_0, m1_4_1, m1_4_2⟩, ⟨m1_7_0, m1_7_9, m1_7_10, m1_7_11, m1_7_12, m1_7_13⟩, ⟨m1_0_17, m1_0_31, m1_0_32, m1_0_33, m1_0_34⟩⟩, m1_0_1, m1_0_3, m1_2_0, m1_2_1⟩ := hm
  refine z_aloadn C.1 (pc := 1540) (n := 1) 1 rfl rfl (fm_dec dtLa_29 1 rfl) ?_
  refine la_arg C (pc := 1541) 1 (v := 1) rfl rfl (fm_inl (by decide)) (by decide) (by decide) (fm_dec dtLa_29 2 rfl) (fm_dec dtLa_29 3 rfl) (fm_dec dtLa_29 4 rfl) (fm_dec dtLa_29 5 rfl) (fm_dec dtLa_29 6 rfl) ?_
  refine la_arg C (pc := 1547) 2 (v := 2) rfl rfl (fm_inl (by decide)) (by decide) (by decide) (fm_dec dtLa_29 7 rfl) (fm_dec dtLa_29 8 rfl) (fm_dec dtLa_29 9 rfl) (fm_dec dtLa_29 10 rfl) (fm_dec dtLa_29 11 rfl) ?_
  refine la_arg C (pc := 1553) 3 (v := 3) rfl rfl (fm_inl (by decide)) (by decide) (by decide) (fm_dec dtLa_29 12 rfl) (fm_dec dtLa_29 13 rfl) (fm_dec dtLa_29 14 rfl) (fm_dec dtLa_29 15 rfl) (fm_dec dtLa_29 16 rfl) ?_
  refine la_arg C (pc := 1559) 4 (v := 4) rfl rfl (fm_inl (by decide)) (by decide) (by decide) (fm_dec dtLa_29 17 rfl) (fm_dec dtLa_29 18 rfl) (fm_dec dtLa_29 19 rfl) (fm_dec dtLa_29 20 rfl) (fm_dec dtLa_29 21 rfl) ?_
  refine la_arg C (pc := 1565) 5 (v := 5) rfl rfl (fm_inl (by decide)) (by decide) (by decide) (fm_dec dtLa_29 22 rfl) (fm_dec dtLa_29 23 rfl) (fm_dec dtLa_29 24 rfl) (fm_dec dtLa_29 25 rfl) (fm_dec dtLa_29 26 rfl) ?_
  refine la_arg6 C (pc := 1571) 6 (v := 6) rfl rfl (fm_inl (by decide)) (by decide) (by decide) (fm_dec dtLa_29 27 rfl) (fm_dec dtLa_29 28 rfl) (fm_dec dtLa_29 29 rfl) (fm_dec dtLa_30 0 rfl) (fm_dec dtLa_30 1 rfl) ?_
  refine z_aloadn C.1 (pc := 1578) (n := 3) 3 rfl rfl (fm_dec dtLa_30 2 rfl) ?_
  refine z_callW C.1 (y' := qL_brings) (hh := [(0, 18, 21, 13)]) (W0 := WX G g o (fmL Tm (g2, G.2) M2) (M, fun _ => 0)) (WW := WX G g o (fmL Tm (g2, G.2) M2)) (Q := fun r u => (((inR (xs 1) 0 16 ∧ (inR (xs 2) 0 16 ∧ inR (xs 3) 0 999 ∧ inR (xs 4) 0 999 ∧ inR (xs 5) 0 999) ∧ inR (xs 6) 0 2)) → r = 0 ∧ u.2 0 = ((meanE (xs 1) (xs 2) (xs 3) (xs 4) (xs 5) (xs 6)) : Int32).toInt64) ∧ (¬ ((inR (xs 1) 0 16 ∧ (inR (xs 2) 0 16 ∧ inR (xs 3) 0 999 ∧ inR (xs 4) 0 999 ∧ inR (xs 5) 0 999) ∧ inR (xs 6) 0 2)) → r = 1)) (As := [.ref (g 0), .int (xs 1), .int (xs 2), .int (xs 3), .int (xs 4), .int (xs 5), .int (xs 6), .ref o]) (st := []) (pc := 1579) (fm_in 1118 (by decide +kernel) rfl) nst_L_brings niL nw_L_brings nd_L_brings rfl rfl (by decide) (show 23 ≤ room_1.frames by decide) (show 8 + (9 + 11) + 920 ≤ room_1.locals by decide) (rm_c (k := 1000) (by decide)) (rm_s (k := 30000) (by decide)) (fm_dec dtLa_30 3 rfl) (w_brings (x_brings C.2.2.2.2.2 _ _ _ _ _ _  (fun h0 h1 h2 => wI_ok ⟨fun _ => ⟨rfl, rfl⟩, fun h => absurd (show (inR (xs 1) 0 16 ∧ (inR (xs 2) 0 16 ∧ inR (xs 3) 0 999 ∧ inR (xs 4) 0 999 ∧ inR (xs 5) 0 999) ∧ inR (xs 6) 0 2) from ⟨h0, h1, h2⟩) h⟩) (fun M' hn => wI_x (⟨rfl, ⟨fun h => absurd h hn, fun _ => rfl⟩⟩)))) (fun r u hQ => ?_)
  obtain ⟨M1, f1⟩ := u
  refine z_istore C.1 (pc := 1582) (i := 5) (by decide) rfl (fm_dec dtLa_30 4 rfl) ?_
  dsimp only [List.set_cons_zero, List.set_cons_succ]
  refine z_aloadn C.1 (pc := 1584) (n := 2) 2 rfl rfl (fm_dec dtLa_30 5 rfl) ?_
  refine la_arg C (pc := 1585) 1 (v := 1) rfl rfl (fm_inl (by decide)) (by decide) (by decide) (fm_dec dtLa_30 6 rfl) (fm_dec dtLa_30 7 rfl) (fm_dec dtLa_30 8 rfl) (fm_dec dtLa_30 9 rfl) (fm_dec dtLa_30 10 rfl) ?_
  refine la_arg C (pc := 1591) 2 (v := 2) rfl rfl (fm_inl (by decide)) (by decide) (by decide) (fm_dec dtLa_30 11 rfl) (fm_dec dtLa_30 12 rfl) (fm_dec dtLa_30 13 rfl) (fm_dec dtLa_30 14 rfl) (fm_dec dtLa_30 15 rfl) ?_
  refine la_arg C (pc := 1597) 3 (v := 3) rfl rfl (fm_inl (by decide)) (by decide) (by decide) (fm_dec dtLa_30 16 rfl) (fm_dec dtLa_30 17 rfl) (fm_dec dtLa_30 18 rfl) (fm_dec dtLa_30 19 rfl) (fm_dec dtLa_30 20 rfl) ?_
  refine la_arg C (pc := 1603) 4 (v := 4) rfl rfl (fm_inl (by decide)) (by decide) (by decide) (fm_dec dtLa_30 21 rfl) (fm_dec dtLa_30 22 rfl) (fm_dec dtLa_30 23 rfl) (fm_dec dtLa_30 24 rfl) (fm_dec dtLa_30 25 rfl) ?_
  refine la_arg C (pc := 1609) 5 (v := 5) rfl rfl (fm_inl (by decide)) (by decide) (by decide) (fm_dec dtLa_30 26 rfl) (fm_dec dtLa_30 27 rfl) (fm_dec dtLa_30 28 rfl) (fm_dec dtLa_30 29 rfl) (fm_dec dtLa_31 0 rfl) ?_
  refine la_arg6 C (pc := 1615) 6 (v := 6) rfl rfl (fm_inl (by decide)) (by decide) (by decide) (fm_dec dtLa_31 1 rfl) (fm_dec dtLa_31 2 rfl) (fm_dec dtLa_31 3 rfl) (fm_dec dtLa_31 4 rfl) (fm_dec dtLa_31 5 rfl) ?_
  refine z_perm (ws := fmL Tx (g, G.2) M1 ++ ((o, .inl (G.2.2.1 1, 1, .inr (.inl f1))) :: fmL Tm (g2, G.2) M2)) (wpermW _ _ _) ?_
  refine z_callX C.1 (T := Tm) (g := g2) (M := M2) (k := 0) (ci := 11) (d' := 2) (pc := 1622) (As := [.int (xs 1), .int (xs 2), .int (xs 3), .int (xs 4), .int (xs 5), .int (xs 6)]) (st := []) cvL_217 (by decide) rfl rfl rfl (by decide) (rm_fr (by decide)) (rm_lo (by decide) (by decide)) (rm_c (k := 1001) (by decide)) (rm_s (k := 30006) (by decide)) (fm_dec dtLa_31 6 rfl) ?_
  refine m_brings C.2.2.2.2.2 _ _ _ _ _ _  (fun M3 ht hp => ?_) (fun r9 M3 ht hn => ?_)
  · refine z_then1 ?_
    refine z_istore C.1 (pc := 1625) (i := 6) (by decide) rfl (fm_dec dtLa_31 7 rfl) ?_
    dsimp only [List.set_cons_zero, List.set_cons_succ]
    exact la_tailI C (pc := 1627) (by decide) (by decide) (v := (meanE (xs 1) (xs 2) (xs 3) (xs 4) (xs 5) (xs 6))) ((inR (xs 1) 0 16 ∧ (inR (xs 2) 0 16 ∧ inR (xs 3) 0 999 ∧ inR (xs 4) 0 999 ∧ inR (xs 5) 0 999) ∧ inR (xs 6) 0 2)) (show (1 : Int32) ≠ 0 by decide) hQ.1 hQ.2 (fun _ => ⟨ht, rfl⟩) (fun h => absurd hp h) (fm_dec dtLa_31 8 rfl) (fm_dec dtLa_31 9 rfl) (fm_dec dtLa_31 10 rfl) (fm_dec dtLa_31 11 rfl) (fm_dec dtLa_31 14 rfl) (fm_dec dtLa_31 15 rfl) (fm_dec dtLa_31 16 rfl) (fm_dec dtLa_31 17 rfl) (fm_dec dtLa_31 18 rfl) (fm_dec dtLa_31 19 rfl) (fm_dec dtLa_31 20 rfl) (fm_dec dtLa_31 21 rfl) (fm_dec dtLa_31 22 rfl) (by decide) (fm_dec dtLa_31 25 rfl)
  · refine z_then1 ?_
    refine z_istore C.1 (pc := 1625) (i := 6) (by decide) rfl (fm_dec dtLa_31 7 rfl) ?_
    dsimp only [List.set_cons_zero, List.set_cons_succ]
    exact la_tailI C (pc := 1627) (by decide) (by decide) (v := (meanE (xs 1) (xs 2) (xs 3) (xs 4) (xs 5) (xs 6))) ((inR (xs 1) 0 16 ∧ (inR (xs 2) 0 16 ∧ inR (xs 3) 0 999 ∧ inR (xs 4) 0 999 ∧ inR (xs 5) 0 999) ∧ inR (xs 6) 0 2)) (show (1 : Int32) ≠ 0 by decide) hQ.1 hQ.2 (fun h => absurd h hn) (fun _ => ht) (fm_dec dtLa_31 8 rfl) (fm_dec dtLa_31 9 rfl) (fm_dec dtLa_31 10 rfl) (fm_dec dtLa_31 11 rfl) (fm_dec dtLa_31 14 rfl) (fm_dec dtLa_31 15 rfl) (fm_dec dtLa_31 16 rfl) (fm_dec dtLa_31 17 rfl) (fm_dec dtLa_31 18 rfl) (fm_dec dtLa_31 19 rfl) (fm_dec dtLa_31 20 rfl) (fm_dec dtLa_31 21 rfl) (fm_dec dtLa_31 22 rfl) (by decide) (fm_dec dtLa_31 25 rfl)
set_option maxRecDepth 20000 in
theorem la_c25 {p : Program} {l : Launch} {e : Env} {s : State} {m : MethodId} {below : List Frame} {meth : Method} {c : Code} {G : fmG} {b : Nat} {xs : Nat → Int32} (C : laC p l s m meth c G b 7 xs) {g g2 : Nat → Nat} {M M2 : fmM} {o : Nat} (hx : xFresh M) (hm : mAll M2) : zEv p l e room_1 s m #[.ref b] below meth c G (fun q => s.heap.size ≤ q) 8 (lw_Z below #[.ref b] s) 1658 [some (.ref b), some (.ref (g 0)), some (.ref (g2 0)), some (.ref o), some (.int 0), none, none, none] [] (fmL Tx (g, G.2) M ++ ((o, .inl (G.2.2.1 1, 1, .inr (.inl fun _ => 0))) :: fmL Tm (g2, G.2) M2)) 1000 30000 := by
  obtain ⟨x1_3_9, x1_3_11, x1_0_13, x1_0_14, x1_0_15, x1_0_16, x1_1_1, x1_1_5, x1_34_5, x1_46_2, x1_47_1, x1_47_2, x1_47_3, x1_47_4, x1_47_5, x2_47_6, x1_27_0, x1_23_3, x1_24_0, x1_24_1, x1_24_2⟩ := hx
  obtain ⟨⟨⟨m1_4_0, m1_4_1, m1_4_2⟩, ⟨m1_7_0, m1_7_9, m1_7_10, m1_7_11, m1_7_12, m1_7_13⟩, ⟨m1_0_17, m1_0_31, m1_0_32, m1_0_33, m1_0_34⟩⟩, m1_0_1, m1_0_3, m1_2_0, m1_2_1⟩ := hm
  refine z_aloadn C.1 (pc := 1658) (n := 1) 1 rfl rfl (fm_dec dtLa_31 26 rfl) ?_
  refine la_arg C (pc := 1659) 1 (v := 1) rfl rfl (fm_inl (by decide)) (by decide) (by decide) (fm_dec dtLa_31 27 rfl) (fm_dec dtLa_31 28 rfl) (fm_dec dtLa_31 29 rfl) (fm_dec dtLa_32 0 rfl) (fm_dec dtLa_32 1 rfl) ?_
  refine la_arg C (pc := 1665) 2 (v := 2) rfl rfl (fm_inl (by decide)) (by decide) (by decide) (fm_dec dtLa_32 2 rfl) (fm_dec dtLa_32 3 rfl) (fm_dec dtLa_32 4 rfl) (fm_dec dtLa_32 5 rfl) (fm_dec dtLa_32 6 rfl) ?_
  refine la_arg C (pc := 1671) 3 (v := 3) rfl rfl (fm_inl (by decide)) (by decide) (by decide) (fm_dec dtLa_32 7 rfl) (fm_dec dtLa_32 8 rfl) (fm_dec dtLa_32 9 rfl) (fm_dec dtLa_32 10 rfl) (fm_dec dtLa_32 11 rfl) ?_
  refine la_arg C (pc := 1677) 4 (v := 4) rfl rfl (fm_inl (by decide)) (by decide) (by decide) (fm_dec dtLa_32 12 rfl) (fm_dec dtLa_32 13 rfl) (fm_dec dtLa_32 14 rfl) (fm_dec dtLa_32 15 rfl) (fm_dec dtLa_32 16 rfl) ?_
  refine la_arg C (pc := 1683) 5 (v := 5) rfl rfl (fm_inl (by decide)) (by decide) (by decide) (fm_dec dtLa_32 17 rfl) (fm_dec dtLa_32 18 rfl) (fm_dec dtLa_32 19 rfl) (fm_dec dtLa_32 20 rfl) (fm_dec dtLa_32 21 rfl) ?_
  refine z_aloadn C.1 (pc := 1689) (n := 3) 3 rfl rfl (fm_dec dtLa_32 22 rfl) ?_
  refine z_callW C.1 (y' := qL_says) (hh := [(0, 16, 19, 13)]) (W0 := WX G g o (fmL Tm (g2, G.2) M2) (M, fun _ => 0)) (WW := WX G g o (fmL Tm (g2, G.2) M2)) (Q := fun r u => (((inR (xs 1) 0 16 ∧ (inR (xs 2) 0 16 ∧ inR (xs 3) 0 999 ∧ inR (xs 4) 0 999 ∧ inR (xs 5) 0 999))) → r = 0 ∧ u.2 0 = ((saysE (xs 1) (xs 2) (xs 3) (xs 4) (xs 5)) : Int32).toInt64) ∧ (¬ ((inR (xs 1) 0 16 ∧ (inR (xs 2) 0 16 ∧ inR (xs 3) 0 999 ∧ inR (xs 4) 0 999 ∧ inR (xs 5) 0 999))) → r = 1)) (As := [.ref (g 0), .int (xs 1), .int (xs 2), .int (xs 3), .int (xs 4), .int (xs 5), .ref o]) (st := []) (pc := 1690) (fm_in 1132 (by decide +kernel) rfl) nst_L_says niL nw_L_says nd_L_says rfl rfl (by decide) (show 23 ≤ room_1.frames by decide) (show 8 + (8 + 11) + 920 ≤ room_1.locals by decide) (rm_c (k := 1000) (by decide)) (rm_s (k := 30000) (by decide)) (fm_dec dtLa_32 23 rfl) (w_says (x_says C.2.2.2.2.2 _ _ _ _ _  (fun h0 h1 => wI_ok ⟨fun _ => ⟨rfl, rfl⟩, fun h => absurd (show (inR (xs 1) 0 16 ∧ (inR (xs 2) 0 16 ∧ inR (xs 3) 0 999 ∧ inR (xs 4) 0 999 ∧ inR (xs 5) 0 999)) from ⟨h0, h1⟩) h⟩) (fun M' hn => wI_x (⟨rfl, ⟨fun h => absurd h hn, fun _ => rfl⟩⟩)))) (fun r u hQ => ?_)
  obtain ⟨M1, f1⟩ := u
  refine z_istore C.1 (pc := 1693) (i := 5) (by decide) rfl (fm_dec dtLa_32 24 rfl) ?_
  dsimp only [List.set_cons_zero, List.set_cons_succ]
  refine z_aloadn C.1 (pc := 1695) (n := 2) 2 rfl rfl (fm_dec dtLa_32 25 rfl) ?_
  refine la_arg C (pc := 1696) 1 (v := 1) rfl rfl (fm_inl (by decide)) (by decide) (by decide) (fm_dec dtLa_32 26 rfl) (fm_dec dtLa_32 27 rfl) (fm_dec dtLa_32 28 rfl) (fm_dec dtLa_32 29 rfl) (fm_dec dtLa_33 0 rfl) ?_
  refine la_arg C (pc := 1702) 2 (v := 2) rfl rfl (fm_inl (by decide)) (by decide) (by decide) (fm_dec dtLa_33 1 rfl) (fm_dec dtLa_33 2 rfl) (fm_dec dtLa_33 3 rfl) (fm_dec dtLa_33 4 rfl) (fm_dec dtLa_33 5 rfl) ?_
  refine la_arg C (pc := 1708) 3 (v := 3) rfl rfl (fm_inl (by decide)) (by decide) (by decide) (fm_dec dtLa_33 6 rfl) (fm_dec dtLa_33 7 rfl) (fm_dec dtLa_33 8 rfl) (fm_dec dtLa_33 9 rfl) (fm_dec dtLa_33 10 rfl) ?_
  refine la_arg C (pc := 1714) 4 (v := 4) rfl rfl (fm_inl (by decide)) (by decide) (by decide) (fm_dec dtLa_33 11 rfl) (fm_dec dtLa_33 12 rfl) (fm_dec dtLa_33 13 rfl) (fm_dec dtLa_33 14 rfl) (fm_dec dtLa_33 15 rfl) ?_
  refine la_arg C (pc := 1720) 5 (v := 5) rfl rfl (fm_inl (by decide)) (by decide) (by decide) (fm_dec dtLa_33 16 rfl) (fm_dec dtLa_33 17 rfl) (fm_dec dtLa_33 18 rfl) (fm_dec dtLa_33 19 rfl) (fm_dec dtLa_33 20 rfl) ?_
  refine z_perm (ws := fmL Tx (g, G.2) M1 ++ ((o, .inl (G.2.2.1 1, 1, .inr (.inl f1))) :: fmL Tm (g2, G.2) M2)) (wpermW _ _ _) ?_
  refine z_callX C.1 (T := Tm) (g := g2) (M := M2) (k := 0) (ci := 11) (d' := 2) (pc := 1726) (As := [.int (xs 1), .int (xs 2), .int (xs 3), .int (xs 4), .int (xs 5)]) (st := []) cvL_220 (by decide) rfl rfl rfl (by decide) (rm_fr (by decide)) (rm_lo (by decide) (by decide)) (rm_c (k := 1001) (by decide)) (rm_s (k := 30006) (by decide)) (fm_dec dtLa_33 21 rfl) ?_
  refine m_says C.2.2.2.2.2 _ _ _ _ _  (fun M3 ht hp => ?_) (fun r9 M3 ht hn => ?_)
  · refine z_then1 ?_
    refine z_istore C.1 (pc := 1729) (i := 6) (by decide) rfl (fm_dec dtLa_33 22 rfl) ?_
    dsimp only [List.set_cons_zero, List.set_cons_succ]
    exact la_tailI C (pc := 1731) (by decide) (by decide) (v := (saysE (xs 1) (xs 2) (xs 3) (xs 4) (xs 5))) ((inR (xs 1) 0 16 ∧ (inR (xs 2) 0 16 ∧ inR (xs 3) 0 999 ∧ inR (xs 4) 0 999 ∧ inR (xs 5) 0 999))) (show (1 : Int32) ≠ 0 by decide) hQ.1 hQ.2 (fun _ => ⟨ht, rfl⟩) (fun h => absurd hp h) (fm_dec dtLa_33 23 rfl) (fm_dec dtLa_33 24 rfl) (fm_dec dtLa_33 25 rfl) (fm_dec dtLa_33 26 rfl) (fm_dec dtLa_33 29 rfl) (fm_dec dtLa_34 0 rfl) (fm_dec dtLa_34 1 rfl) (fm_dec dtLa_34 2 rfl) (fm_dec dtLa_34 3 rfl) (fm_dec dtLa_34 4 rfl) (fm_dec dtLa_34 5 rfl) (fm_dec dtLa_34 6 rfl) (fm_dec dtLa_34 7 rfl) (by decide) (fm_dec dtLa_34 10 rfl)
  · refine z_then1 ?_
    refine z_istore C.1 (pc := 1729) (i := 6) (by decide) rfl (fm_dec dtLa_33 22 rfl) ?_
    dsimp only [List.set_cons_zero, List.set_cons_succ]
    exact la_tailI C (pc := 1731) (by decide) (by decide) (v := (saysE (xs 1) (xs 2) (xs 3) (xs 4) (xs 5))) ((inR (xs 1) 0 16 ∧ (inR (xs 2) 0 16 ∧ inR (xs 3) 0 999 ∧ inR (xs 4) 0 999 ∧ inR (xs 5) 0 999))) (show (1 : Int32) ≠ 0 by decide) hQ.1 hQ.2 (fun h => absurd h hn) (fun _ => ht) (fm_dec dtLa_33 23 rfl) (fm_dec dtLa_33 24 rfl) (fm_dec dtLa_33 25 rfl) (fm_dec dtLa_33 26 rfl) (fm_dec dtLa_33 29 rfl) (fm_dec dtLa_34 0 rfl) (fm_dec dtLa_34 1 rfl) (fm_dec dtLa_34 2 rfl) (fm_dec dtLa_34 3 rfl) (fm_dec dtLa_34 4 rfl) (fm_dec dtLa_34 5 rfl) (fm_dec dtLa_34 6 rfl) (fm_dec dtLa_34 7 rfl) (by decide) (fm_dec dtLa_34 10 rfl)
set_option maxRecDepth 20000 in
theorem la_c26 {p : Program} {l : Launch} {e : Env} {s : State} {m : MethodId} {below : List Frame} {meth : Method} {c : Code} {G : fmG} {b : Nat} {xs : Nat → Int32} (C : laC p l s m meth c G b 7 xs) {g g2 : Nat → Nat} {M M2 : fmM} {o : Nat} (hx : xFresh M) (hm : mAll M2) : zEv p l e room_1 s m #[.ref b] below meth c G (fun q => s.heap.size ≤ q) 8 (lw_Z below #[.ref b] s) 1762 [some (.ref b), some (.ref (g 0)), some (.ref (g2 0)), some (.ref o), some (.int 0), none, none, none] [] (fmL Tx (g, G.2) M ++ ((o, .inl (G.2.2.1 1, 1, .inr (.inl fun _ => 0))) :: fmL Tm (g2, G.2) M2)) 1000 30000 := by
  obtain ⟨x1_3_9, x1_3_11, x1_0_13, x1_0_14, x1_0_15, x1_0_16, x1_1_1, x1_1_5, x1_34_5, x1_46_2, x1_47_1, x1_47_2, x1_47_3, x1_47_4, x1_47_5, x2_47_6, x1_27_0, x1_23_3, x1_24_0, x1_24_1, x1_24_2⟩ := hx
  obtain ⟨⟨⟨m1_4_0, m1_4_1, m1_4_2⟩, ⟨m1_7_0, m1_7_9, m1_7_10, m1_7_11, m1_7_12, m1_7_13⟩, ⟨m1_0_17, m1_0_31, m1_0_32, m1_0_33, m1_0_34⟩⟩, m1_0_1, m1_0_3, m1_2_0, m1_2_1⟩ := hm
  refine z_aloadn C.1 (pc := 1762) (n := 1) 1 rfl rfl (fm_dec dtLa_34 11 rfl) ?_
  refine la_arg C (pc := 1763) 1 (v := 1) rfl rfl (fm_inl (by decide)) (by decide) (by decide) (fm_dec dtLa_34 12 rfl) (fm_dec dtLa_34 13 rfl) (fm_dec dtLa_34 14 rfl) (fm_dec dtLa_34 15 rfl) (fm_dec dtLa_34 16 rfl) ?_
  refine la_arg C (pc := 1769) 2 (v := 2) rfl rfl (fm_inl (by decide)) (by decide) (by decide) (fm_dec dtLa_34 17 rfl) (fm_dec dtLa_34 18 rfl) (fm_dec dtLa_34 19 rfl) (fm_dec dtLa_34 20 rfl) (fm_dec dtLa_34 21 rfl) ?_
  refine la_arg C (pc := 1775) 3 (v := 3) rfl rfl (fm_inl (by decide)) (by decide) (by decide) (fm_dec dtLa_34 22 rfl) (fm_dec dtLa_34 23 rfl) (fm_dec dtLa_34 24 rfl) (fm_dec dtLa_34 25 rfl) (fm_dec dtLa_34 26 rfl) ?_
  refine la_arg C (pc := 1781) 4 (v := 4) rfl rfl (fm_inl (by decide)) (by decide) (by decide) (fm_dec dtLa_34 27 rfl) (fm_dec dtLa_34 28 rfl) (fm_dec dtLa_34 29 rfl) (fm_dec dtLa_35 0 rfl) (fm_dec dtLa_35 1 rfl) ?_
  refine z_aloadn C.1 (pc := 1787) (n := 3) 3 rfl rfl (fm_dec dtLa_35 2 rfl) ?_
  refine z_callW C.1 (y' := qL_line) (hh := [(0, 14, 17, 13)]) (W0 := WX G g o (fmL Tm (g2, G.2) M2) (M, fun _ => 0)) (WW := WX G g o (fmL Tm (g2, G.2) M2)) (Q := fun r u => (((inR (xs 1) 0 16 ∧ inR (xs 2) 0 999 ∧ inR (xs 3) 0 999 ∧ inR (xs 4) 0 999)) → r = 0 ∧ u.2 0 = ((lineE (xs 1) (xs 2) (xs 3) (xs 4) 17 0) : Int32).toInt64) ∧ (¬ ((inR (xs 1) 0 16 ∧ inR (xs 2) 0 999 ∧ inR (xs 3) 0 999 ∧ inR (xs 4) 0 999)) → r = 1)) (As := [.ref (g 0), .int (xs 1), .int (xs 2), .int (xs 3), .int (xs 4), .ref o]) (st := []) (pc := 1788) (fm_in 1142 (by decide +kernel) rfl) nst_L_line niL nw_L_line nd_L_line rfl rfl (by decide) (show 23 ≤ room_1.frames by decide) (show 8 + (7 + 11) + 920 ≤ room_1.locals by decide) (rm_c (k := 1000) (by decide)) (rm_s (k := 30000) (by decide)) (fm_dec dtLa_35 3 rfl) (w_line (x_line C.2.2.2.2.2 _ _ _ _  (fun h0 => wI_ok ⟨fun _ => ⟨rfl, rfl⟩, fun h => absurd (show (inR (xs 1) 0 16 ∧ inR (xs 2) 0 999 ∧ inR (xs 3) 0 999 ∧ inR (xs 4) 0 999) from h0) h⟩) (fun M' hn => wI_x (⟨rfl, ⟨fun h => absurd h hn, fun _ => rfl⟩⟩)))) (fun r u hQ => ?_)
  obtain ⟨M1, f1⟩ := u
  refine z_istore C.1 (pc := 1791) (i := 5) (by decide) rfl (fm_dec dtLa_35 4 rfl) ?_
  dsimp only [List.set_cons_zero, List.set_cons_succ]
  refine z_aloadn C.1 (pc := 1793) (n := 2) 2 rfl rfl (fm_dec dtLa_35 5 rfl) ?_
  refine la_arg C (pc := 1794) 1 (v := 1) rfl rfl (fm_inl (by decide)) (by decide) (by decide) (fm_dec dtLa_35 6 rfl) (fm_dec dtLa_35 7 rfl) (fm_dec dtLa_35 8 rfl) (fm_dec dtLa_35 9 rfl) (fm_dec dtLa_35 10 rfl) ?_
  refine la_arg C (pc := 1800) 2 (v := 2) rfl rfl (fm_inl (by decide)) (by decide) (by decide) (fm_dec dtLa_35 11 rfl) (fm_dec dtLa_35 12 rfl) (fm_dec dtLa_35 13 rfl) (fm_dec dtLa_35 14 rfl) (fm_dec dtLa_35 15 rfl) ?_
  refine la_arg C (pc := 1806) 3 (v := 3) rfl rfl (fm_inl (by decide)) (by decide) (by decide) (fm_dec dtLa_35 16 rfl) (fm_dec dtLa_35 17 rfl) (fm_dec dtLa_35 18 rfl) (fm_dec dtLa_35 19 rfl) (fm_dec dtLa_35 20 rfl) ?_
  refine la_arg C (pc := 1812) 4 (v := 4) rfl rfl (fm_inl (by decide)) (by decide) (by decide) (fm_dec dtLa_35 21 rfl) (fm_dec dtLa_35 22 rfl) (fm_dec dtLa_35 23 rfl) (fm_dec dtLa_35 24 rfl) (fm_dec dtLa_35 25 rfl) ?_
  refine z_perm (ws := fmL Tx (g, G.2) M1 ++ ((o, .inl (G.2.2.1 1, 1, .inr (.inl f1))) :: fmL Tm (g2, G.2) M2)) (wpermW _ _ _) ?_
  refine z_callX C.1 (T := Tm) (g := g2) (M := M2) (k := 0) (ci := 11) (d' := 2) (pc := 1818) (As := [.int (xs 1), .int (xs 2), .int (xs 3), .int (xs 4)]) (st := []) cvL_223 (by decide) rfl rfl rfl (by decide) (rm_fr (by decide)) (rm_lo (by decide) (by decide)) (rm_c (k := 1001) (by decide)) (rm_s (k := 30006) (by decide)) (fm_dec dtLa_35 26 rfl) ?_
  refine m_line C.2.2.2.2.2 _ _ _ _  (fun M3 ht hp => ?_) (fun r9 M3 ht hn => ?_)
  · refine z_then1 ?_
    refine z_istore C.1 (pc := 1821) (i := 6) (by decide) rfl (fm_dec dtLa_35 27 rfl) ?_
    dsimp only [List.set_cons_zero, List.set_cons_succ]
    exact la_tailI C (pc := 1823) (by decide) (by decide) (v := (lineE (xs 1) (xs 2) (xs 3) (xs 4) 17 0)) ((inR (xs 1) 0 16 ∧ inR (xs 2) 0 999 ∧ inR (xs 3) 0 999 ∧ inR (xs 4) 0 999)) (show (1 : Int32) ≠ 0 by decide) hQ.1 hQ.2 (fun _ => ⟨ht, rfl⟩) (fun h => absurd hp h) (fm_dec dtLa_35 28 rfl) (fm_dec dtLa_35 29 rfl) (fm_dec dtLa_36 0 rfl) (fm_dec dtLa_36 1 rfl) (fm_dec dtLa_36 4 rfl) (fm_dec dtLa_36 5 rfl) (fm_dec dtLa_36 6 rfl) (fm_dec dtLa_36 7 rfl) (fm_dec dtLa_36 8 rfl) (fm_dec dtLa_36 9 rfl) (fm_dec dtLa_36 10 rfl) (fm_dec dtLa_36 11 rfl) (fm_dec dtLa_36 12 rfl) (by decide) (fm_dec dtLa_36 15 rfl)
  · refine z_then1 ?_
    refine z_istore C.1 (pc := 1821) (i := 6) (by decide) rfl (fm_dec dtLa_35 27 rfl) ?_
    dsimp only [List.set_cons_zero, List.set_cons_succ]
    exact la_tailI C (pc := 1823) (by decide) (by decide) (v := (lineE (xs 1) (xs 2) (xs 3) (xs 4) 17 0)) ((inR (xs 1) 0 16 ∧ inR (xs 2) 0 999 ∧ inR (xs 3) 0 999 ∧ inR (xs 4) 0 999)) (show (1 : Int32) ≠ 0 by decide) hQ.1 hQ.2 (fun h => absurd h hn) (fun _ => ht) (fm_dec dtLa_35 28 rfl) (fm_dec dtLa_35 29 rfl) (fm_dec dtLa_36 0 rfl) (fm_dec dtLa_36 1 rfl) (fm_dec dtLa_36 4 rfl) (fm_dec dtLa_36 5 rfl) (fm_dec dtLa_36 6 rfl) (fm_dec dtLa_36 7 rfl) (fm_dec dtLa_36 8 rfl) (fm_dec dtLa_36 9 rfl) (fm_dec dtLa_36 10 rfl) (fm_dec dtLa_36 11 rfl) (fm_dec dtLa_36 12 rfl) (by decide) (fm_dec dtLa_36 15 rfl)
set_option maxRecDepth 20000 in
theorem la_c27 {p : Program} {l : Launch} {e : Env} {s : State} {m : MethodId} {below : List Frame} {meth : Method} {c : Code} {G : fmG} {b : Nat} {xs : Nat → Int32} (C : laC p l s m meth c G b 7 xs) {g g2 : Nat → Nat} {M M2 : fmM} {o : Nat} (hx : xFresh M) (hm : mAll M2) : zEv p l e room_1 s m #[.ref b] below meth c G (fun q => s.heap.size ≤ q) 8 (lw_Z below #[.ref b] s) 1854 [some (.ref b), some (.ref (g 0)), some (.ref (g2 0)), some (.ref o), some (.int 0), none, none, none] [] (fmL Tx (g, G.2) M ++ ((o, .inl (G.2.2.1 1, 1, .inr (.inl fun _ => 0))) :: fmL Tm (g2, G.2) M2)) 1000 30000 := by
  obtain ⟨x1_3_9, x1_3_11, x1_0_13, x1_0_14, x1_0_15, x1_0_16, x1_1_1, x1_1_5, x1_34_5, x1_46_2, x1_47_1, x1_47_2, x1_47_3, x1_47_4, x1_47_5, x2_47_6, x1_27_0, x1_23_3, x1_24_0, x1_24_1, x1_24_2⟩ := hx
  obtain ⟨⟨⟨m1_4_0, m1_4_1, m1_4_2⟩, ⟨m1_7_0, m1_7_9, m1_7_10, m1_7_11, m1_7_12, m1_7_13⟩, ⟨m1_0_17, m1_0_31, m1_0_32, m1_0_33, m1_0_34⟩⟩, m1_0_1, m1_0_3, m1_2_0, m1_2_1⟩ := hm
  refine z_aloadn C.1 (pc := 1854) (n := 1) 1 rfl rfl (fm_dec dtLa_36 16 rfl) ?_
  refine la_arg C (pc := 1855) 1 (v := 1) rfl rfl (fm_inl (by decide)) (by decide) (by decide) (fm_dec dtLa_36 17 rfl) (fm_dec dtLa_36 18 rfl) (fm_dec dtLa_36 19 rfl) (fm_dec dtLa_36 20 rfl) (fm_dec dtLa_36 21 rfl) ?_
  refine la_arg C (pc := 1861) 2 (v := 2) rfl rfl (fm_inl (by decide)) (by decide) (by decide) (fm_dec dtLa_36 22 rfl) (fm_dec dtLa_36 23 rfl) (fm_dec dtLa_36 24 rfl) (fm_dec dtLa_36 25 rfl) (fm_dec dtLa_36 26 rfl) ?_
  refine z_aloadn C.1 (pc := 1867) (n := 3) 3 rfl rfl (fm_dec dtLa_36 27 rfl) ?_
  refine z_callW C.1 (y' := qL_room) (hh := [(0, 10, 13, 13)]) (W0 := WX G g o (fmL Tm (g2, G.2) M2) (M, fun _ => 0)) (WW := WX G g o (fmL Tm (g2, G.2) M2)) (Q := fun r u => (((inR (xs 1) 0 0 ∧ inR (xs 2) 0 200)) → r = 0 ∧ u.2 0 = (0 : Int32).toInt64) ∧ (¬ ((inR (xs 1) 0 0 ∧ inR (xs 2) 0 200)) → r = 1)) (As := [.ref (g 0), .int (xs 1), .int (xs 2), .ref o]) (st := []) (pc := 1868) (fm_in 1149 (by decide +kernel) rfl) nst_L_room niL nw_L_room nd_L_room rfl rfl (by decide) (show 23 ≤ room_1.frames by decide) (show 8 + (5 + 11) + 920 ≤ room_1.locals by decide) (rm_c (k := 1000) (by decide)) (rm_s (k := 30000) (by decide)) (fm_dec dtLa_36 28 rfl) (w_room (x_room C.2.2.2.2.2 _ _ x1_3_9 (fun M' h0 h1 => wI_ok ⟨fun _ => ⟨rfl, rfl⟩, fun h => absurd (show (inR (xs 1) 0 0 ∧ inR (xs 2) 0 200) from ⟨h0, h1⟩) h⟩) (fun M' hn => wI_x (⟨rfl, ⟨fun h => absurd h hn, fun _ => rfl⟩⟩)))) (fun r u hQ => ?_)
  obtain ⟨M1, f1⟩ := u
  refine z_istore C.1 (pc := 1871) (i := 5) (by decide) rfl (fm_dec dtLa_36 29 rfl) ?_
  dsimp only [List.set_cons_zero, List.set_cons_succ]
  refine z_aloadn C.1 (pc := 1873) (n := 2) 2 rfl rfl (fm_dec dtLa_37 0 rfl) ?_
  refine la_arg C (pc := 1874) 1 (v := 1) rfl rfl (fm_inl (by decide)) (by decide) (by decide) (fm_dec dtLa_37 1 rfl) (fm_dec dtLa_37 2 rfl) (fm_dec dtLa_37 3 rfl) (fm_dec dtLa_37 4 rfl) (fm_dec dtLa_37 5 rfl) ?_
  refine la_arg C (pc := 1880) 2 (v := 2) rfl rfl (fm_inl (by decide)) (by decide) (by decide) (fm_dec dtLa_37 6 rfl) (fm_dec dtLa_37 7 rfl) (fm_dec dtLa_37 8 rfl) (fm_dec dtLa_37 9 rfl) (fm_dec dtLa_37 10 rfl) ?_
  refine z_perm (ws := fmL Tx (g, G.2) M1 ++ ((o, .inl (G.2.2.1 1, 1, .inr (.inl f1))) :: fmL Tm (g2, G.2) M2)) (wpermW _ _ _) ?_
  refine z_callX C.1 (T := Tm) (g := g2) (M := M2) (k := 0) (ci := 11) (d' := 3) (pc := 1886) (As := [.int (xs 1), .int (xs 2)]) (st := []) cvL_226 (by decide) rfl rfl rfl (by decide) (rm_fr (by decide)) (rm_lo (by decide) (by decide)) (rm_c (k := 1001) (by decide)) (rm_s (k := 30006) (by decide)) (fm_dec dtLa_37 11 rfl) ?_
  refine m_room C.2.2.2.2.2 _ _ m1_4_0 (fun M3 ht hp => ?_) (fun r9 M3 ht hn => ?_)
  · refine z_then1 ?_
    refine z_istore C.1 (pc := 1889) (i := 6) (by decide) rfl (fm_dec dtLa_37 12 rfl) ?_
    dsimp only [List.set_cons_zero, List.set_cons_succ]
    exact la_tailI C (pc := 1891) (by decide) (by decide) (v := 0) ((inR (xs 1) 0 0 ∧ inR (xs 2) 0 200)) (show (1 : Int32) ≠ 0 by decide) hQ.1 hQ.2 (fun _ => ⟨ht, rfl⟩) (fun h => absurd hp h) (fm_dec dtLa_37 13 rfl) (fm_dec dtLa_37 14 rfl) (fm_dec dtLa_37 15 rfl) (fm_dec dtLa_37 16 rfl) (fm_dec dtLa_37 19 rfl) (fm_dec dtLa_37 20 rfl) (fm_dec dtLa_37 21 rfl) (fm_dec dtLa_37 22 rfl) (fm_dec dtLa_37 23 rfl) (fm_dec dtLa_37 24 rfl) (fm_dec dtLa_37 25 rfl) (fm_dec dtLa_37 26 rfl) (fm_dec dtLa_37 27 rfl) (by decide) (fm_dec dtLa_38 0 rfl)
  · refine z_then1 ?_
    refine z_istore C.1 (pc := 1889) (i := 6) (by decide) rfl (fm_dec dtLa_37 12 rfl) ?_
    dsimp only [List.set_cons_zero, List.set_cons_succ]
    exact la_tailI C (pc := 1891) (by decide) (by decide) (v := 0) ((inR (xs 1) 0 0 ∧ inR (xs 2) 0 200)) (show (1 : Int32) ≠ 0 by decide) hQ.1 hQ.2 (fun h => absurd h hn) (fun _ => ht) (fm_dec dtLa_37 13 rfl) (fm_dec dtLa_37 14 rfl) (fm_dec dtLa_37 15 rfl) (fm_dec dtLa_37 16 rfl) (fm_dec dtLa_37 19 rfl) (fm_dec dtLa_37 20 rfl) (fm_dec dtLa_37 21 rfl) (fm_dec dtLa_37 22 rfl) (fm_dec dtLa_37 23 rfl) (fm_dec dtLa_37 24 rfl) (fm_dec dtLa_37 25 rfl) (fm_dec dtLa_37 26 rfl) (fm_dec dtLa_37 27 rfl) (by decide) (fm_dec dtLa_38 0 rfl)
set_option maxRecDepth 20000 in
theorem la_c28 {p : Program} {l : Launch} {e : Env} {s : State} {m : MethodId} {below : List Frame} {meth : Method} {c : Code} {G : fmG} {b : Nat} {xs : Nat → Int32} (C : laC p l s m meth c G b 7 xs) {g g2 : Nat → Nat} {M M2 : fmM} {o : Nat} (hx : xFresh M) (hm : mAll M2) : zEv p l e room_1 s m #[.ref b] below meth c G (fun q => s.heap.size ≤ q) 8 (lw_Z below #[.ref b] s) 1922 [some (.ref b), some (.ref (g 0)), some (.ref (g2 0)), some (.ref o), some (.int 0), none, none, none] [] (fmL Tx (g, G.2) M ++ ((o, .inl (G.2.2.1 1, 1, .inr (.inl fun _ => 0))) :: fmL Tm (g2, G.2) M2)) 1000 30000 := by
  obtain ⟨x1_3_9, x1_3_11, x1_0_13, x1_0_14, x1_0_15, x1_0_16, x1_1_1, x1_1_5, x1_34_5, x1_46_2, x1_47_1, x1_47_2, x1_47_3, x1_47_4, x1_47_5, x2_47_6, x1_27_0, x1_23_3, x1_24_0, x1_24_1, x1_24_2⟩ := hx
  obtain ⟨⟨⟨m1_4_0, m1_4_1, m1_4_2⟩, ⟨m1_7_0, m1_7_9, m1_7_10, m1_7_11, m1_7_12, m1_7_13⟩, ⟨m1_0_17, m1_0_31, m1_0_32, m1_0_33, m1_0_34⟩⟩, m1_0_1, m1_0_3, m1_2_0, m1_2_1⟩ := hm
  refine z_aloadn C.1 (pc := 1922) (n := 1) 1 rfl rfl (fm_dec dtLa_38 1 rfl) ?_
  refine la_arg C (pc := 1923) 1 (v := 1) rfl rfl (fm_inl (by decide)) (by decide) (by decide) (fm_dec dtLa_38 2 rfl) (fm_dec dtLa_38 3 rfl) (fm_dec dtLa_38 4 rfl) (fm_dec dtLa_38 5 rfl) (fm_dec dtLa_38 6 rfl) ?_
  refine la_arg C (pc := 1929) 2 (v := 2) rfl rfl (fm_inl (by decide)) (by decide) (by decide) (fm_dec dtLa_38 7 rfl) (fm_dec dtLa_38 8 rfl) (fm_dec dtLa_38 9 rfl) (fm_dec dtLa_38 10 rfl) (fm_dec dtLa_38 11 rfl) ?_
  refine la_arg C (pc := 1935) 3 (v := 3) rfl rfl (fm_inl (by decide)) (by decide) (by decide) (fm_dec dtLa_38 12 rfl) (fm_dec dtLa_38 13 rfl) (fm_dec dtLa_38 14 rfl) (fm_dec dtLa_38 15 rfl) (fm_dec dtLa_38 16 rfl) ?_
  refine z_aloadn C.1 (pc := 1941) (n := 3) 3 rfl rfl (fm_dec dtLa_38 17 rfl) ?_
  refine z_callW C.1 (y' := qL_lines) (hh := [(0, 12, 15, 31), (0, 12, 19, 13)]) (W0 := WX G g o (fmL Tm (g2, G.2) M2) (M, fun _ => 0)) (WW := WX G g o (fmL Tm (g2, G.2) M2)) (Q := fun r u => ((False) → r = 0 ∧ u.2 0 = (0 : Int32).toInt64) ∧ (¬ (False) → r = 1)) (As := [.ref (g 0), .int (xs 1), .int (xs 2), .int (xs 3), .ref o]) (st := []) (pc := 1942) (fm_in 1179 (by decide +kernel) rfl) nst_L_lines niL nw_L_lines nd_L_lines rfl rfl (by decide) (show 23 ≤ room_1.frames by decide) (show 8 + (6 + 11) + 920 ≤ room_1.locals by decide) (rm_c (k := 1000) (by decide)) (rm_s (k := 30000) (by decide)) (fm_dec dtLa_38 18 rfl) (w_lines (x_lines C.2.2.2.2.2 _ _ _ x1_3_9 (fun M' => wI_x (Or.inl ⟨rfl, ⟨fun h => h.elim, fun _ => rfl⟩⟩)))) (fun r u hQ => ?_)
  obtain ⟨M1, f1⟩ := u
  refine z_istore C.1 (pc := 1945) (i := 5) (by decide) rfl (fm_dec dtLa_38 19 rfl) ?_
  dsimp only [List.set_cons_zero, List.set_cons_succ]
  refine z_aloadn C.1 (pc := 1947) (n := 2) 2 rfl rfl (fm_dec dtLa_38 20 rfl) ?_
  refine la_arg C (pc := 1948) 1 (v := 1) rfl rfl (fm_inl (by decide)) (by decide) (by decide) (fm_dec dtLa_38 21 rfl) (fm_dec dtLa_38 22 rfl) (fm_dec dtLa_38 23 rfl) (fm_dec dtLa_38 24 rfl) (fm_dec dtLa_38 25 rfl) ?_
  refine la_arg C (pc := 1954) 2 (v := 2) rfl rfl (fm_inl (by decide)) (by decide) (by decide) (fm_dec dtLa_38 26 rfl) (fm_dec dtLa_38 27 rfl) (fm_dec dtLa_38 28 rfl) (fm_dec dtLa_38 29 rfl) (fm_dec dtLa_39 0 rfl) ?_
  refine la_arg C (pc := 1960) 3 (v := 3) rfl rfl (fm_inl (by decide)) (by decide) (by decide) (fm_dec dtLa_39 1 rfl) (fm_dec dtLa_39 2 rfl) (fm_dec dtLa_39 3 rfl) (fm_dec dtLa_39 4 rfl) (fm_dec dtLa_39 5 rfl) ?_
  refine z_perm (ws := fmL Tx (g, G.2) M1 ++ ((o, .inl (G.2.2.1 1, 1, .inr (.inl f1))) :: fmL Tm (g2, G.2) M2)) (wpermW _ _ _) ?_
  refine z_callX C.1 (T := Tm) (g := g2) (M := M2) (k := 0) (ci := 11) (d' := 3) (pc := 1966) (As := [.int (xs 1), .int (xs 2), .int (xs 3)]) (st := []) cvL_230 (by decide) rfl rfl rfl (by decide) (rm_fr (by decide)) (rm_lo (by decide) (by decide)) (rm_c (k := 1001) (by decide)) (rm_s (k := 30006) (by decide)) (fm_dec dtLa_39 6 rfl) ?_
  refine m_lines C.2.2.2.2.2 _ _ _ m1_4_0 (fun r9 M3 ht => ?_)
  refine z_then1 ?_
  refine z_istore C.1 (pc := 1969) (i := 6) (by decide) rfl (fm_dec dtLa_39 7 rfl) ?_
  dsimp only [List.set_cons_zero, List.set_cons_succ]
  exact la_tailI C (pc := 1971) (by decide) (by decide) (v := 0) (False) (show (1 : Int32) ≠ 0 by decide) hQ.1 hQ.2 (fun h => h.elim) (fun _ => ht) (fm_dec dtLa_39 8 rfl) (fm_dec dtLa_39 9 rfl) (fm_dec dtLa_39 10 rfl) (fm_dec dtLa_39 11 rfl) (fm_dec dtLa_39 14 rfl) (fm_dec dtLa_39 15 rfl) (fm_dec dtLa_39 16 rfl) (fm_dec dtLa_39 17 rfl) (fm_dec dtLa_39 18 rfl) (fm_dec dtLa_39 19 rfl) (fm_dec dtLa_39 20 rfl) (fm_dec dtLa_39 21 rfl) (fm_dec dtLa_39 22 rfl) (by decide) (fm_dec dtLa_39 25 rfl)
set_option maxRecDepth 20000 in
theorem la_c29 {p : Program} {l : Launch} {e : Env} {s : State} {m : MethodId} {below : List Frame} {meth : Method} {c : Code} {G : fmG} {b : Nat} {xs : Nat → Int32} (C : laC p l s m meth c G b 7 xs) {g g2 : Nat → Nat} {M M2 : fmM} {o : Nat} (hx : xFresh M) (hm : mAll M2) : zEv p l e room_1 s m #[.ref b] below meth c G (fun q => s.heap.size ≤ q) 8 (lw_Z below #[.ref b] s) 2002 [some (.ref b), some (.ref (g 0)), some (.ref (g2 0)), some (.ref o), some (.int 0), none, none, none] [] (fmL Tx (g, G.2) M ++ ((o, .inl (G.2.2.1 1, 1, .inr (.inl fun _ => 0))) :: fmL Tm (g2, G.2) M2)) 1000 30000 := by
  obtain ⟨x1_3_9, x1_3_11, x1_0_13, x1_0_14, x1_0_15, x1_0_16, x1_1_1, x1_1_5, x1_34_5, x1_46_2, x1_47_1, x1_47_2, x1_47_3, x1_47_4, x1_47_5, x2_47_6, x1_27_0, x1_23_3, x1_24_0, x1_24_1, x1_24_2⟩ := hx
  obtain ⟨⟨⟨m1_4_0, m1_4_1, m1_4_2⟩, ⟨m1_7_0, m1_7_9, m1_7_10, m1_7_11, m1_7_12, m1_7_13⟩, ⟨m1_0_17, m1_0_31, m1_0_32, m1_0_33, m1_0_34⟩⟩, m1_0_1, m1_0_3, m1_2_0, m1_2_1⟩ := hm
  refine z_aloadn C.1 (pc := 2002) (n := 1) 1 rfl rfl (fm_dec dtLa_39 26 rfl) ?_
  refine la_arg C (pc := 2003) 1 (v := 1) rfl rfl (fm_inl (by decide)) (by decide) (by decide) (fm_dec dtLa_39 27 rfl) (fm_dec dtLa_39 28 rfl) (fm_dec dtLa_39 29 rfl) (fm_dec dtLa_40 0 rfl) (fm_dec dtLa_40 1 rfl) ?_
  refine la_arg C (pc := 2009) 2 (v := 2) rfl rfl (fm_inl (by decide)) (by decide) (by decide) (fm_dec dtLa_40 2 rfl) (fm_dec dtLa_40 3 rfl) (fm_dec dtLa_40 4 rfl) (fm_dec dtLa_40 5 rfl) (fm_dec dtLa_40 6 rfl) ?_
  refine z_aloadn C.1 (pc := 2015) (n := 3) 3 rfl rfl (fm_dec dtLa_40 7 rfl) ?_
  refine z_callW C.1 (y' := qL_apart) (hh := [(0, 10, 13, 13)]) (W0 := WX G g o (fmL Tm (g2, G.2) M2) (M, fun _ => 0)) (WW := WX G g o (fmL Tm (g2, G.2) M2)) (Q := fun r u => (((inR (xs 1) 0 0 ∧ inR (xs 2) 0 1)) → r = 0 ∧ u.2 0 = (0 : Int32).toInt64) ∧ (¬ ((inR (xs 1) 0 0 ∧ inR (xs 2) 0 1)) → r = 1)) (As := [.ref (g 0), .int (xs 1), .int (xs 2), .ref o]) (st := []) (pc := 2016) (fm_in 1186 (by decide +kernel) rfl) nst_L_apart niL nw_L_apart nd_L_apart rfl rfl (by decide) (show 23 ≤ room_1.frames by decide) (show 8 + (5 + 11) + 920 ≤ room_1.locals by decide) (rm_c (k := 1000) (by decide)) (rm_s (k := 30000) (by decide)) (fm_dec dtLa_40 8 rfl) (w_apart (x_apart C.2.2.2.2.2 _ _ x1_3_9 (fun h0 h1 => wI_ok ⟨fun _ => ⟨rfl, rfl⟩, fun h => absurd (show (inR (xs 1) 0 0 ∧ inR (xs 2) 0 1) from ⟨h0, h1⟩) h⟩) (fun M' hn => wI_x (⟨rfl, ⟨fun h => absurd h hn, fun _ => rfl⟩⟩)))) (fun r u hQ => ?_)
  obtain ⟨M1, f1⟩ := u
  refine z_istore C.1 (pc := 2019) (i := 5) (by decide) rfl (fm_dec dtLa_40 9 rfl) ?_
  dsimp only [List.set_cons_zero, List.set_cons_succ]
  refine z_aloadn C.1 (pc := 2021) (n := 2) 2 rfl rfl (fm_dec dtLa_40 10 rfl) ?_
  refine la_arg C (pc := 2022) 1 (v := 1) rfl rfl (fm_inl (by decide)) (by decide) (by decide) (fm_dec dtLa_40 11 rfl) (fm_dec dtLa_40 12 rfl) (fm_dec dtLa_40 13 rfl) (fm_dec dtLa_40 14 rfl) (fm_dec dtLa_40 15 rfl) ?_
  refine la_arg C (pc := 2028) 2 (v := 2) rfl rfl (fm_inl (by decide)) (by decide) (by decide) (fm_dec dtLa_40 16 rfl) (fm_dec dtLa_40 17 rfl) (fm_dec dtLa_40 18 rfl) (fm_dec dtLa_40 19 rfl) (fm_dec dtLa_40 20 rfl) ?_
  refine z_perm (ws := fmL Tx (g, G.2) M1 ++ ((o, .inl (G.2.2.1 1, 1, .inr (.inl f1))) :: fmL Tm (g2, G.2) M2)) (wpermW _ _ _) ?_
  refine z_callX C.1 (T := Tm) (g := g2) (M := M2) (k := 0) (ci := 11) (d' := 2) (pc := 2034) (As := [.int (xs 1), .int (xs 2)]) (st := []) cvL_233 (by decide) rfl rfl rfl (by decide) (rm_fr (by decide)) (rm_lo (by decide) (by decide)) (rm_c (k := 1001) (by decide)) (rm_s (k := 30006) (by decide)) (fm_dec dtLa_40 21 rfl) ?_
  refine m_apart C.2.2.2.2.2 _ _ m1_4_0 (fun M3 ht hp => ?_) (fun r9 M3 ht hn => ?_)
  · refine z_then1 ?_
    refine z_istore C.1 (pc := 2037) (i := 6) (by decide) rfl (fm_dec dtLa_40 22 rfl) ?_
    dsimp only [List.set_cons_zero, List.set_cons_succ]
    exact la_tailI C (pc := 2039) (by decide) (by decide) (v := 0) ((inR (xs 1) 0 0 ∧ inR (xs 2) 0 1)) (show (1 : Int32) ≠ 0 by decide) hQ.1 hQ.2 (fun _ => ⟨ht, rfl⟩) (fun h => absurd hp h) (fm_dec dtLa_40 23 rfl) (fm_dec dtLa_40 24 rfl) (fm_dec dtLa_40 25 rfl) (fm_dec dtLa_40 26 rfl) (fm_dec dtLa_40 29 rfl) (fm_dec dtLa_41 0 rfl) (fm_dec dtLa_41 1 rfl) (fm_dec dtLa_41 2 rfl) (fm_dec dtLa_41 3 rfl) (fm_dec dtLa_41 4 rfl) (fm_dec dtLa_41 5 rfl) (fm_dec dtLa_41 6 rfl) (fm_dec dtLa_41 7 rfl) (by decide) (fm_dec dtLa_41 10 rfl)
  · refine z_then1 ?_
    refine z_istore C.1 (pc := 2037) (i := 6) (by decide) rfl (fm_dec dtLa_40 22 rfl) ?_
    dsimp only [List.set_cons_zero, List.set_cons_succ]
    exact la_tailI C (pc := 2039) (by decide) (by decide) (v := 0) ((inR (xs 1) 0 0 ∧ inR (xs 2) 0 1)) (show (1 : Int32) ≠ 0 by decide) hQ.1 hQ.2 (fun h => absurd h hn) (fun _ => ht) (fm_dec dtLa_40 23 rfl) (fm_dec dtLa_40 24 rfl) (fm_dec dtLa_40 25 rfl) (fm_dec dtLa_40 26 rfl) (fm_dec dtLa_40 29 rfl) (fm_dec dtLa_41 0 rfl) (fm_dec dtLa_41 1 rfl) (fm_dec dtLa_41 2 rfl) (fm_dec dtLa_41 3 rfl) (fm_dec dtLa_41 4 rfl) (fm_dec dtLa_41 5 rfl) (fm_dec dtLa_41 6 rfl) (fm_dec dtLa_41 7 rfl) (by decide) (fm_dec dtLa_41 10 rfl)
set_option maxRecDepth 20000 in
theorem la_c30 {p : Program} {l : Launch} {e : Env} {s : State} {m : MethodId} {below : List Frame} {meth : Method} {c : Code} {G : fmG} {b : Nat} {xs : Nat → Int32} (C : laC p l s m meth c G b 7 xs) {g g2 : Nat → Nat} {M M2 : fmM} {o : Nat} (hx : xFresh M) (hm : mAll M2) : zEv p l e room_1 s m #[.ref b] below meth c G (fun q => s.heap.size ≤ q) 8 (lw_Z below #[.ref b] s) 2070 [some (.ref b), some (.ref (g 0)), some (.ref (g2 0)), some (.ref o), some (.int 0), none, none, none] [] (fmL Tx (g, G.2) M ++ ((o, .inl (G.2.2.1 1, 1, .inr (.inl fun _ => 0))) :: fmL Tm (g2, G.2) M2)) 1000 30000 := by
  obtain ⟨x1_3_9, x1_3_11, x1_0_13, x1_0_14, x1_0_15, x1_0_16, x1_1_1, x1_1_5, x1_34_5, x1_46_2, x1_47_1, x1_47_2, x1_47_3, x1_47_4, x1_47_5, x2_47_6, x1_27_0, x1_23_3, x1_24_0, x1_24_1, x1_24_2⟩ := hx
  obtain ⟨⟨⟨m1_4_0, m1_4_1, m1_4_2⟩, ⟨m1_7_0, m1_7_9, m1_7_10, m1_7_11, m1_7_12, m1_7_13⟩, ⟨m1_0_17, m1_0_31, m1_0_32, m1_0_33, m1_0_34⟩⟩, m1_0_1, m1_0_3, m1_2_0, m1_2_1⟩ := hm
  refine z_aloadn C.1 (pc := 2070) (n := 1) 1 rfl rfl (fm_dec dtLa_41 11 rfl) ?_
  refine z_callX C.1 (T := Tx) (g := g) (M := M) (rest := (o, .inl (G.2.2.1 1, 1, .inr (.inl fun _ => 0))) :: fmL Tm (g2, G.2) M2) (k := 0) (ci := 10) (d' := 2) (pc := 2071) (As := []) (st := []) cvL_234 (by decide) rfl rfl rfl (by decide) (rm_fr (by decide)) (rm_lo (by decide) (by decide)) (rm_c (k := 1000) (by decide)) (rm_s (k := 30000) (by decide)) (fm_dec dtLa_41 12 rfl) ?_
  refine x_twins C.2.2.2.2.2  x1_3_9 ?_
  refine z_then1 ?_
  refine z_aloadn C.1 (pc := 2074) (n := 2) 2 rfl rfl (fm_dec dtLa_41 13 rfl) ?_
  refine z_perm (wpermW _ _ _) ?_
  refine z_callX C.1 (T := Tm) (g := g2) (M := M2) (k := 0) (ci := 11) (d' := 1) (pc := 2075) (As := []) (st := [.int ((-1))]) cvL_237 (by decide) rfl rfl rfl (Nat.le_of_ble_eq_true rfl) (rm_fr (by decide)) (rm_lo (by decide) (by decide)) (rm_c (k := 1000) (by decide)) (rm_s (k := 30000) (by decide)) (fm_dec dtLa_41 14 rfl) ?_
  refine m_twins C.2.2.2.2.2  m1_4_0 (fun M3 => ?_)
  refine z_then1 ?_
  refine z_icmp_eq C.1 (pc := 2078) 2854 (by decide) (fm_dec dtLa_41 15 rfl) (fun _ => ?_) (fun h => absurd rfl h)
  exact la_end C rfl (by decide) (by decide)
set_option maxRecDepth 20000 in
theorem la_c31 {p : Program} {l : Launch} {e : Env} {s : State} {m : MethodId} {below : List Frame} {meth : Method} {c : Code} {G : fmG} {b : Nat} {xs : Nat → Int32} (C : laC p l s m meth c G b 7 xs) {g g2 : Nat → Nat} {M M2 : fmM} {o : Nat} (hx : xFresh M) (hm : mAll M2) : zEv p l e room_1 s m #[.ref b] below meth c G (fun q => s.heap.size ≤ q) 8 (lw_Z below #[.ref b] s) 2083 [some (.ref b), some (.ref (g 0)), some (.ref (g2 0)), some (.ref o), some (.int 0), none, none, none] [] (fmL Tx (g, G.2) M ++ ((o, .inl (G.2.2.1 1, 1, .inr (.inl fun _ => 0))) :: fmL Tm (g2, G.2) M2)) 1000 30000 := by
  obtain ⟨x1_3_9, x1_3_11, x1_0_13, x1_0_14, x1_0_15, x1_0_16, x1_1_1, x1_1_5, x1_34_5, x1_46_2, x1_47_1, x1_47_2, x1_47_3, x1_47_4, x1_47_5, x2_47_6, x1_27_0, x1_23_3, x1_24_0, x1_24_1, x1_24_2⟩ := hx
  obtain ⟨⟨⟨m1_4_0, m1_4_1, m1_4_2⟩, ⟨m1_7_0, m1_7_9, m1_7_10, m1_7_11, m1_7_12, m1_7_13⟩, ⟨m1_0_17, m1_0_31, m1_0_32, m1_0_33, m1_0_34⟩⟩, m1_0_1, m1_0_3, m1_2_0, m1_2_1⟩ := hm
  refine z_aloadn C.1 (pc := 2083) (n := 1) 1 rfl rfl (fm_dec dtLa_41 18 rfl) ?_
  refine la_arg C (pc := 2084) 1 (v := 1) rfl rfl (fm_inl (by decide)) (by decide) (by decide) (fm_dec dtLa_41 19 rfl) (fm_dec dtLa_41 20 rfl) (fm_dec dtLa_41 21 rfl) (fm_dec dtLa_41 22 rfl) (fm_dec dtLa_41 23 rfl) ?_
  refine z_aloadn C.1 (pc := 2090) (n := 3) 3 rfl rfl (fm_dec dtLa_41 24 rfl) ?_
  refine z_callW C.1 (y' := qL_written) (hh := [(0, 8, 11, 31)]) (W0 := WX G g o (fmL Tm (g2, G.2) M2) (M, fun _ => 0)) (WW := WX G g o (fmL Tm (g2, G.2) M2)) (Q := fun r u => ((False) → r = 0 ∧ u.2 0 = (0 : Int64)) ∧ (¬ (False) → r = 1)) (As := [.ref (g 0), .int (xs 1), .ref o]) (st := []) (pc := 2091) (fm_in 1197 (by decide +kernel) rfl) nst_L_written niL nw_L_written nd_L_written rfl rfl (by decide) (show 23 ≤ room_1.frames by decide) (show 8 + (4 + 11) + 920 ≤ room_1.locals by decide) (rm_c (k := 1000) (by decide)) (rm_s (k := 30000) (by decide)) (fm_dec dtLa_41 25 rfl) (w_written (x_written C.2.2.2.2.2 _ x1_3_9 (fun M' => wJ_x (⟨rfl, ⟨fun h => h.elim, fun _ => rfl⟩⟩)))) (fun r u hQ => ?_)
  obtain ⟨M1, f1⟩ := u
  refine z_istore C.1 (pc := 2094) (i := 5) (by decide) rfl (fm_dec dtLa_41 26 rfl) ?_
  dsimp only [List.set_cons_zero, List.set_cons_succ]
  refine z_aloadn C.1 (pc := 2096) (n := 2) 2 rfl rfl (fm_dec dtLa_41 27 rfl) ?_
  refine la_arg C (pc := 2097) 1 (v := 1) rfl rfl (fm_inl (by decide)) (by decide) (by decide) (fm_dec dtLa_41 28 rfl) (fm_dec dtLa_41 29 rfl) (fm_dec dtLa_42 0 rfl) (fm_dec dtLa_42 1 rfl) (fm_dec dtLa_42 2 rfl) ?_
  refine z_perm (ws := fmL Tx (g, G.2) M1 ++ ((o, .inl (G.2.2.1 1, 1, .inr (.inl f1))) :: fmL Tm (g2, G.2) M2)) (wpermW _ _ _) ?_
  refine z_callX C.1 (T := Tm) (g := g2) (M := M2) (k := 0) (ci := 11) (d' := 2) (pc := 2103) (As := [.int (xs 1)]) (st := []) cvL_240 (by decide) rfl rfl rfl (by decide) (rm_fr (by decide)) (rm_lo (by decide) (by decide)) (rm_c (k := 1001) (by decide)) (rm_s (k := 30006) (by decide)) (fm_dec dtLa_42 3 rfl) ?_
  refine m_written C.2.2.2.2.2 _ m1_4_0 (fun r9 M3 ht => ?_)
  refine z_then1 ?_
  refine z_lstore C.1 (pc := 2106) (i := 6) (by decide) rfl (fm_dec dtLa_42 4 rfl) ?_
  dsimp only [List.set_cons_zero, List.set_cons_succ]
  exact la_tailJ C (pc := 2108) (by decide) (by decide) (v := 0) (False) (show (1 : Int32) ≠ 0 by decide) hQ.1 hQ.2 (fun h => h.elim) (fun _ => ht) (fm_dec dtLa_42 5 rfl) (fm_dec dtLa_42 6 rfl) (fm_dec dtLa_42 7 rfl) (fm_dec dtLa_42 8 rfl) (fm_dec dtLa_42 11 rfl) (fm_dec dtLa_42 12 rfl) (fm_dec dtLa_42 13 rfl) (fm_dec dtLa_42 14 rfl) (fm_dec dtLa_42 15 rfl) (fm_dec dtLa_42 16 rfl) (fm_dec dtLa_42 17 rfl) (fm_dec dtLa_42 18 rfl) (by decide) (fm_dec dtLa_42 21 rfl)
