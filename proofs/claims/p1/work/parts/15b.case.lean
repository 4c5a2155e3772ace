theorem wpermW (x : Nat × va_E) (u v : va_W) : List.Perm (u ++ (x :: v) : va_W) (v ++ (u ++ [x]) : va_W) := wperm x u v
theorem wI_ok {f : Nat → Int64} {Q : Int32 → fmM × (Nat → Int64) → Prop} {X : String → fmM → Prop} {M' : fmM} {v : Int32} (h : Q 0 (M', vp_updL f 0 v.toInt64)) : wI f Q X (.inl (some (.int v))) M' := h
theorem wI_x {f : Nat → Int64} {Q : Int32 → fmM × (Nat → Int64) → Prop} {X : String → fmM → Prop} {M' : fmM} {E : String} (h : X E M') : wI f Q X (.inr E) M' := h
theorem wJ_ok {f : Nat → Int64} {Q : Int32 → fmM × (Nat → Int64) → Prop} {X : String → fmM → Prop} {M' : fmM} {v : Int64} (h : Q 0 (M', vp_updL f 0 v)) : wJ f Q X (.inl (some (.long v))) M' := h
theorem wJ_x {f : Nat → Int64} {Q : Int32 → fmM × (Nat → Int64) → Prop} {X : String → fmM → Prop} {M' : fmM} {E : String} (h : X E M') : wJ f Q X (.inr E) M' := h
set_option maxRecDepth 20000 in
theorem la_c0 {p : Program} {l : Launch} {e : Env} {s : State} {m : MethodId} {below : List Frame} {meth : Method} {c : Code} {G : fmG} {b : Nat} {xs : Nat → Int32} (C : laC p l s m meth c G b 7 xs) {g g2 : Nat → Nat} {M M2 : fmM} {o : Nat} (hx : xFresh M) (hm : mAll M2) : zEv p l e room_1 s m #[.ref b] below meth c G (fun q => s.heap.size ≤ q) 8 (lw_Z below #[.ref b] s) 244 [some (.ref b), some (.ref (g 0)), some (.ref (g2 0)), some (.ref o), some (.int 0), none, none, none] [] (fmL Tx (g, G.2) M ++ ((o, .inl (G.2.2.1 1, 1, .inr (.inl fun _ => 0))) :: fmL Tm (g2, G.2) M2)) 1000 30000 := by
  obtain ⟨x1_3_9, x1_3_11, x1_0_13, x1_0_14, x1_0_15, x1_0_16, x1_1_1, x1_1_5, x1_34_5, x1_46_2, x1_47_1, x1_47_2, x1_47_3, x1_47_4, x1_47_5, x2_47_6, x1_27_0, x1_23_3, x1_24_0, x1_24_1, x1_24_2⟩ := hx
  obtain ⟨⟨⟨m1_4_0, m1_4_1, m1_4_2⟩, ⟨m1_7_0, m1_7_9, m1_7_10, m1_7_11, m1_7_12, m1_7_13⟩, ⟨m1_0_17, m1_0_31, m1_0_32, m1_0_33, m1_0_34⟩⟩, m1_0_1, m1_0_3, m1_2_0, m1_2_1⟩ := hm
  refine z_aloadn C.1 (pc := 244) (n := 1) 1 rfl rfl (fm_dec dtLa_0 25 rfl) ?_
  refine la_arg C (pc := 245) 1 (v := 1) rfl rfl (fm_inl (by decide)) (by decide) (by decide) (fm_dec dtLa_0 26 rfl) (fm_dec dtLa_0 27 rfl) (fm_dec dtLa_0 28 rfl) (fm_dec dtLa_0 29 rfl) (fm_dec dtLa_1 0 rfl) ?_
  refine la_arg C (pc := 251) 2 (v := 2) rfl rfl (fm_inl (by decide)) (by decide) (by decide) (fm_dec dtLa_1 1 rfl) (fm_dec dtLa_1 2 rfl) (fm_dec dtLa_1 3 rfl) (fm_dec dtLa_1 4 rfl) (fm_dec dtLa_1 5 rfl) ?_
  refine la_arg C (pc := 257) 3 (v := 3) rfl rfl (fm_inl (by decide)) (by decide) (by decide) (fm_dec dtLa_1 6 rfl) (fm_dec dtLa_1 7 rfl) (fm_dec dtLa_1 8 rfl) (fm_dec dtLa_1 9 rfl) (fm_dec dtLa_1 10 rfl) ?_
  refine la_arg C (pc := 263) 4 (v := 4) rfl rfl (fm_inl (by decide)) (by decide) (by decide) (fm_dec dtLa_1 11 rfl) (fm_dec dtLa_1 12 rfl) (fm_dec dtLa_1 13 rfl) (fm_dec dtLa_1 14 rfl) (fm_dec dtLa_1 15 rfl) ?_
  refine la_arg C (pc := 269) 5 (v := 5) rfl rfl (fm_inl (by decide)) (by decide) (by decide) (fm_dec dtLa_1 16 rfl) (fm_dec dtLa_1 17 rfl) (fm_dec dtLa_1 18 rfl) (fm_dec dtLa_1 19 rfl) (fm_dec dtLa_1 20 rfl) ?_
  refine z_callX C.1 (T := Tx) (g := g) (M := M) (rest := (o, .inl (G.2.2.1 1, 1, .inr (.inl fun _ => 0))) :: fmL Tm (g2, G.2) M2) (k := 0) (ci := 10) (d' := 1) (pc := 275) (As := [.int (xs 1), .int (xs 2), .int (xs 3), .int (xs 4), .int (xs 5)]) (st := []) cvL_126 (by decide) rfl rfl rfl (by decide) (rm_fr (by decide)) (rm_lo (by decide) (by decide)) (rm_c (k := 1000) (by decide)) (rm_s (k := 30000) (by decide)) (fm_dec dtLa_1 21 rfl) ?_
  refine x_feed C.2.2.2.2.2 _ _ _ _ _ x1_1_1 (fun M1 => ?_)
  refine z_then1 ?_
  refine z_aloadn C.1 (pc := 278) (n := 2) 2 rfl rfl (fm_dec dtLa_1 22 rfl) ?_
  refine la_arg C (pc := 279) 1 (v := 1) rfl rfl (fm_inl (by decide)) (by decide) (by decide) (fm_dec dtLa_1 23 rfl) (fm_dec dtLa_1 24 rfl) (fm_dec dtLa_1 25 rfl) (fm_dec dtLa_1 26 rfl) (fm_dec dtLa_1 27 rfl) ?_
  refine la_arg C (pc := 285) 2 (v := 2) rfl rfl (fm_inl (by decide)) (by decide) (by decide) (fm_dec dtLa_1 28 rfl) (fm_dec dtLa_1 29 rfl) (fm_dec dtLa_2 0 rfl) (fm_dec dtLa_2 1 rfl) (fm_dec dtLa_2 2 rfl) ?_
  refine la_arg C (pc := 291) 3 (v := 3) rfl rfl (fm_inl (by decide)) (by decide) (by decide) (fm_dec dtLa_2 3 rfl) (fm_dec dtLa_2 4 rfl) (fm_dec dtLa_2 5 rfl) (fm_dec dtLa_2 6 rfl) (fm_dec dtLa_2 7 rfl) ?_
  refine la_arg C (pc := 297) 4 (v := 4) rfl rfl (fm_inl (by decide)) (by decide) (by decide) (fm_dec dtLa_2 8 rfl) (fm_dec dtLa_2 9 rfl) (fm_dec dtLa_2 10 rfl) (fm_dec dtLa_2 11 rfl) (fm_dec dtLa_2 12 rfl) ?_
  refine la_arg C (pc := 303) 5 (v := 5) rfl rfl (fm_inl (by decide)) (by decide) (by decide) (fm_dec dtLa_2 13 rfl) (fm_dec dtLa_2 14 rfl) (fm_dec dtLa_2 15 rfl) (fm_dec dtLa_2 16 rfl) (fm_dec dtLa_2 17 rfl) ?_
  refine z_perm (wpermW _ _ _) ?_
  refine z_callX C.1 (T := Tm) (g := g2) (M := M2) (k := 0) (ci := 11) (d' := 0) (pc := 309) (As := [.int (xs 1), .int (xs 2), .int (xs 3), .int (xs 4), .int (xs 5)]) (st := [.int (20)]) cvL_129 (by decide) rfl rfl rfl (Nat.le_of_ble_eq_true rfl) (rm_fr (by decide)) (rm_lo (by decide) (by decide)) (rm_c (k := 1000) (by decide)) (rm_s (k := 30000) (by decide)) (fm_dec dtLa_2 18 rfl) ?_
  refine m_feed C.2.2.2.2.2 _ _ _ _ _ m1_0_1 (fun M3 => ?_)
  refine z_then1 ?_
  refine z_icmp_eq C.1 (pc := 312) 2854 (by decide) (fm_dec dtLa_2 19 rfl) (fun _ => ?_) (fun h => absurd rfl h)
  exact la_end C rfl (by decide) (by decide)
set_option maxRecDepth 20000 in
theorem la_c1 {p : Program} {l : Launch} {e : Env} {s : State} {m : MethodId} {below : List Frame} {meth : Method} {c : Code} {G : fmG} {b : Nat} {xs : Nat → Int32} (C : laC p l s m meth c G b 7 xs) {g g2 : Nat → Nat} {M M2 : fmM} {o : Nat} (hx : xFresh M) (hm : mAll M2) : zEv p l e room_1 s m #[.ref b] below meth c G (fun q => s.heap.size ≤ q) 8 (lw_Z below #[.ref b] s) 317 [some (.ref b), some (.ref (g 0)), some (.ref (g2 0)), some (.ref o), some (.int 0), none, none, none] [] (fmL Tx (g, G.2) M ++ ((o, .inl (G.2.2.1 1, 1, .inr (.inl fun _ => 0))) :: fmL Tm (g2, G.2) M2)) 1000 30000 := by
  obtain ⟨x1_3_9, x1_3_11, x1_0_13, x1_0_14, x1_0_15, x1_0_16, x1_1_1, x1_1_5, x1_34_5, x1_46_2, x1_47_1, x1_47_2, x1_47_3, x1_47_4, x1_47_5, x2_47_6, x1_27_0, x1_23_3, x1_24_0, x1_24_1, x1_24_2⟩ := hx
  obtain ⟨⟨⟨m1_4_0, m1_4_1, m1_4_2⟩, ⟨m1_7_0, m1_7_9, m1_7_10, m1_7_11, m1_7_12, m1_7_13⟩, ⟨m1_0_17, m1_0_31, m1_0_32, m1_0_33, m1_0_34⟩⟩, m1_0_1, m1_0_3, m1_2_0, m1_2_1⟩ := hm
  refine z_aloadn C.1 (pc := 317) (n := 1) 1 rfl rfl (fm_dec dtLa_2 22 rfl) ?_
  refine la_arg C (pc := 318) 1 (v := 1) rfl rfl (fm_inl (by decide)) (by decide) (by decide) (fm_dec dtLa_2 23 rfl) (fm_dec dtLa_2 24 rfl) (fm_dec dtLa_2 25 rfl) (fm_dec dtLa_2 26 rfl) (fm_dec dtLa_2 27 rfl) ?_
  refine z_aloadn C.1 (pc := 324) (n := 3) 3 rfl rfl (fm_dec dtLa_2 28 rfl) ?_
  refine z_callW C.1 (y' := qL_drawer) (hh := [(0, 9, 12, 13)]) (W0 := WX G g o (fmL Tm (g2, G.2) M2) (M, fun _ => 0)) (WW := WX G g o (fmL Tm (g2, G.2) M2)) (Q := fun r u => (((inR (xs 1) 0 0)) → r = 0 ∧ u.2 0 = (0 : Int32).toInt64) ∧ (¬ ((inR (xs 1) 0 0)) → r = 1)) (As := [.ref (g 0), .int (xs 1), .ref o]) (st := []) (pc := 325) (fm_in 589 (by decide +kernel) rfl) nst_L_drawer niL nw_L_drawer nd_L_drawer rfl rfl (by decide) (show 23 ≤ room_1.frames by decide) (show 8 + (4 + 11) + 920 ≤ room_1.locals by decide) (rm_c (k := 1000) (by decide)) (rm_s (k := 30000) (by decide)) (fm_dec dtLa_2 29 rfl) (w_drawer (x_drawer C.2.2.2.2.2 _ x1_1_1 (fun M' h0 => wI_ok ⟨fun _ => ⟨rfl, rfl⟩, fun h => absurd (show (inR (xs 1) 0 0) from h0) h⟩) (fun M' hn => wI_x (⟨rfl, ⟨fun h => absurd h hn, fun _ => rfl⟩⟩)))) (fun r u hQ => ?_)
  obtain ⟨M1, f1⟩ := u
  refine z_istore C.1 (pc := 328) (i := 5) (by decide) rfl (fm_dec dtLa_3 0 rfl) ?_
  dsimp only [List.set_cons_zero, List.set_cons_succ]
  refine z_aloadn C.1 (pc := 330) (n := 2) 2 rfl rfl (fm_dec dtLa_3 1 rfl) ?_
  refine la_arg C (pc := 331) 1 (v := 1) rfl rfl (fm_inl (by decide)) (by decide) (by decide) (fm_dec dtLa_3 2 rfl) (fm_dec dtLa_3 3 rfl) (fm_dec dtLa_3 4 rfl) (fm_dec dtLa_3 5 rfl) (fm_dec dtLa_3 6 rfl) ?_
  refine z_perm (ws := fmL Tx (g, G.2) M1 ++ ((o, .inl (G.2.2.1 1, 1, .inr (.inl f1))) :: fmL Tm (g2, G.2) M2)) (wpermW _ _ _) ?_
  refine z_callX C.1 (T := Tm) (g := g2) (M := M2) (k := 0) (ci := 11) (d' := 6) (pc := 337) (As := [.int (xs 1)]) (st := []) cvL_135 (by decide) rfl rfl rfl (by decide) (rm_fr (by decide)) (rm_lo (by decide) (by decide)) (rm_c (k := 1001) (by decide)) (rm_s (k := 30006) (by decide)) (fm_dec dtLa_3 7 rfl) ?_
  refine m_drawer C.2.2.2.2.2 _ m1_0_1 (fun M3 ht hp => ?_) (fun r9 M3 ht hn => ?_)
  · refine z_then1 ?_
    refine z_istore C.1 (pc := 340) (i := 6) (by decide) rfl (fm_dec dtLa_3 8 rfl) ?_
    dsimp only [List.set_cons_zero, List.set_cons_succ]
    exact la_tailI C (pc := 342) (by decide) (by decide) (v := 0) ((inR (xs 1) 0 0)) (show (1 : Int32) ≠ 0 by decide) hQ.1 hQ.2 (fun _ => ⟨ht, rfl⟩) (fun h => absurd hp h) (fm_dec dtLa_3 9 rfl) (fm_dec dtLa_3 10 rfl) (fm_dec dtLa_3 11 rfl) (fm_dec dtLa_3 12 rfl) (fm_dec dtLa_3 15 rfl) (fm_dec dtLa_3 16 rfl) (fm_dec dtLa_3 17 rfl) (fm_dec dtLa_3 18 rfl) (fm_dec dtLa_3 19 rfl) (fm_dec dtLa_3 20 rfl) (fm_dec dtLa_3 21 rfl) (fm_dec dtLa_3 22 rfl) (fm_dec dtLa_3 23 rfl) (by decide) (fm_dec dtLa_3 26 rfl)
  · refine z_then1 ?_
    refine z_istore C.1 (pc := 340) (i := 6) (by decide) rfl (fm_dec dtLa_3 8 rfl) ?_
    dsimp only [List.set_cons_zero, List.set_cons_succ]
    exact la_tailI C (pc := 342) (by decide) (by decide) (v := 0) ((inR (xs 1) 0 0)) (show (1 : Int32) ≠ 0 by decide) hQ.1 hQ.2 (fun h => absurd h hn) (fun _ => ht) (fm_dec dtLa_3 9 rfl) (fm_dec dtLa_3 10 rfl) (fm_dec dtLa_3 11 rfl) (fm_dec dtLa_3 12 rfl) (fm_dec dtLa_3 15 rfl) (fm_dec dtLa_3 16 rfl) (fm_dec dtLa_3 17 rfl) (fm_dec dtLa_3 18 rfl) (fm_dec dtLa_3 19 rfl) (fm_dec dtLa_3 20 rfl) (fm_dec dtLa_3 21 rfl) (fm_dec dtLa_3 22 rfl) (fm_dec dtLa_3 23 rfl) (by decide) (fm_dec dtLa_3 26 rfl)
set_option maxRecDepth 20000 in
theorem la_c2 {p : Program} {l : Launch} {e : Env} {s : State} {m : MethodId} {below : List Frame} {meth : Method} {c : Code} {G : fmG} {b : Nat} {xs : Nat → Int32} (C : laC p l s m meth c G b 7 xs) {g g2 : Nat → Nat} {M M2 : fmM} {o : Nat} (hx : xFresh M) (hm : mAll M2) : zEv p l e room_1 s m #[.ref b] below meth c G (fun q => s.heap.size ≤ q) 8 (lw_Z below #[.ref b] s) 373 [some (.ref b), some (.ref (g 0)), some (.ref (g2 0)), some (.ref o), some (.int 0), none, none, none] [] (fmL Tx (g, G.2) M ++ ((o, .inl (G.2.2.1 1, 1, .inr (.inl fun _ => 0))) :: fmL Tm (g2, G.2) M2)) 1000 30000 := by
  obtain ⟨x1_3_9, x1_3_11, x1_0_13, x1_0_14, x1_0_15, x1_0_16, x1_1_1, x1_1_5, x1_34_5, x1_46_2, x1_47_1, x1_47_2, x1_47_3, x1_47_4, x1_47_5, x2_47_6, x1_27_0, x1_23_3, x1_24_0, x1_24_1, x1_24_2⟩ := hx
  obtain ⟨⟨⟨m1_4_0, m1_4_1, m1_4_2⟩, ⟨m1_7_0, m1_7_9, m1_7_10, m1_7_11, m1_7_12, m1_7_13⟩, ⟨m1_0_17, m1_0_31, m1_0_32, m1_0_33, m1_0_34⟩⟩, m1_0_1, m1_0_3, m1_2_0, m1_2_1⟩ := hm
  refine z_aloadn C.1 (pc := 373) (n := 1) 1 rfl rfl (fm_dec dtLa_3 27 rfl) ?_
  refine la_arg C (pc := 374) 1 (v := 1) rfl rfl (fm_inl (by decide)) (by decide) (by decide) (fm_dec dtLa_3 28 rfl) (fm_dec dtLa_3 29 rfl) (fm_dec dtLa_4 0 rfl) (fm_dec dtLa_4 1 rfl) (fm_dec dtLa_4 2 rfl) ?_
  refine z_aloadn C.1 (pc := 380) (n := 3) 3 rfl rfl (fm_dec dtLa_4 3 rfl) ?_
  refine z_callW C.1 (y' := qL_law) (hh := [(0, 9, 12, 13)]) (W0 := WX G g o (fmL Tm (g2, G.2) M2) (M, fun _ => 0)) (WW := WX G g o (fmL Tm (g2, G.2) M2)) (Q := fun r u => (((inR (xs 1) 0 0)) → r = 0 ∧ u.2 0 = ((-9) : Int32).toInt64) ∧ (¬ ((inR (xs 1) 0 0)) → r = 1)) (As := [.ref (g 0), .int (xs 1), .ref o]) (st := []) (pc := 381) (fm_in 799 (by decide +kernel) rfl) nst_L_law niL nw_L_law nd_L_law rfl rfl (by decide) (show 23 ≤ room_1.frames by decide) (show 8 + (4 + 11) + 920 ≤ room_1.locals by decide) (rm_c (k := 1000) (by decide)) (rm_s (k := 30000) (by decide)) (fm_dec dtLa_4 4 rfl) (w_law (x_law C.2.2.2.2.2 _ x1_1_1 (fun M' h0 => wI_ok ⟨fun _ => ⟨rfl, rfl⟩, fun h => absurd (show (inR (xs 1) 0 0) from h0) h⟩) (fun M' hn => wI_x (⟨rfl, ⟨fun h => absurd h hn, fun _ => rfl⟩⟩)))) (fun r u hQ => ?_)
  obtain ⟨M1, f1⟩ := u
  refine z_istore C.1 (pc := 384) (i := 5) (by decide) rfl (fm_dec dtLa_4 5 rfl) ?_
  dsimp only [List.set_cons_zero, List.set_cons_succ]
  refine z_aloadn C.1 (pc := 386) (n := 2) 2 rfl rfl (fm_dec dtLa_4 6 rfl) ?_
  refine la_arg C (pc := 387) 1 (v := 1) rfl rfl (fm_inl (by decide)) (by decide) (by decide) (fm_dec dtLa_4 7 rfl) (fm_dec dtLa_4 8 rfl) (fm_dec dtLa_4 9 rfl) (fm_dec dtLa_4 10 rfl) (fm_dec dtLa_4 11 rfl) ?_
  refine z_perm (ws := fmL Tx (g, G.2) M1 ++ ((o, .inl (G.2.2.1 1, 1, .inr (.inl f1))) :: fmL Tm (g2, G.2) M2)) (wpermW _ _ _) ?_
  refine z_callX C.1 (T := Tm) (g := g2) (M := M2) (k := 0) (ci := 11) (d' := 9) (pc := 393) (As := [.int (xs 1)]) (st := []) cvL_142 (by decide) rfl rfl rfl (by decide) (rm_fr (by decide)) (rm_lo (by decide) (by decide)) (rm_c (k := 1001) (by decide)) (rm_s (k := 30006) (by decide)) (fm_dec dtLa_4 12 rfl) ?_
  refine m_law C.2.2.2.2.2 _ m1_0_1 (fun M3 ht hp => ?_) (fun r9 M3 ht hn => ?_)
  · refine z_then1 ?_
    refine z_istore C.1 (pc := 396) (i := 6) (by decide) rfl (fm_dec dtLa_4 13 rfl) ?_
    dsimp only [List.set_cons_zero, List.set_cons_succ]
    exact la_tailI C (pc := 398) (by decide) (by decide) (v := (-9)) ((inR (xs 1) 0 0)) (show (1 : Int32) ≠ 0 by decide) hQ.1 hQ.2 (fun _ => ⟨ht, rfl⟩) (fun h => absurd hp h) (fm_dec dtLa_4 14 rfl) (fm_dec dtLa_4 15 rfl) (fm_dec dtLa_4 16 rfl) (fm_dec dtLa_4 17 rfl) (fm_dec dtLa_4 20 rfl) (fm_dec dtLa_4 21 rfl) (fm_dec dtLa_4 22 rfl) (fm_dec dtLa_4 23 rfl) (fm_dec dtLa_4 24 rfl) (fm_dec dtLa_4 25 rfl) (fm_dec dtLa_4 26 rfl) (fm_dec dtLa_4 27 rfl) (fm_dec dtLa_4 28 rfl) (by decide) (fm_dec dtLa_5 1 rfl)
  · refine z_then1 ?_
    refine z_istore C.1 (pc := 396) (i := 6) (by decide) rfl (fm_dec dtLa_4 13 rfl) ?_
    dsimp only [List.set_cons_zero, List.set_cons_succ]
    exact la_tailI C (pc := 398) (by decide) (by decide) (v := (-9)) ((inR (xs 1) 0 0)) (show (1 : Int32) ≠ 0 by decide) hQ.1 hQ.2 (fun h => absurd h hn) (fun _ => ht) (fm_dec dtLa_4 14 rfl) (fm_dec dtLa_4 15 rfl) (fm_dec dtLa_4 16 rfl) (fm_dec dtLa_4 17 rfl) (fm_dec dtLa_4 20 rfl) (fm_dec dtLa_4 21 rfl) (fm_dec dtLa_4 22 rfl) (fm_dec dtLa_4 23 rfl) (fm_dec dtLa_4 24 rfl) (fm_dec dtLa_4 25 rfl) (fm_dec dtLa_4 26 rfl) (fm_dec dtLa_4 27 rfl) (fm_dec dtLa_4 28 rfl) (by decide) (fm_dec dtLa_5 1 rfl)
set_option maxRecDepth 20000 in
theorem la_c3 {p : Program} {l : Launch} {e : Env} {s : State} {m : MethodId} {below : List Frame} {meth : Method} {c : Code} {G : fmG} {b : Nat} {xs : Nat → Int32} (C : laC p l s m meth c G b 7 xs) {g g2 : Nat → Nat} {M M2 : fmM} {o : Nat} (hx : xFresh M) (hm : mAll M2) : zEv p l e room_1 s m #[.ref b] below meth c G (fun q => s.heap.size ≤ q) 8 (lw_Z below #[.ref b] s) 429 [some (.ref b), some (.ref (g 0)), some (.ref (g2 0)), some (.ref o), some (.int 0), none, none, none] [] (fmL Tx (g, G.2) M ++ ((o, .inl (G.2.2.1 1, 1, .inr (.inl fun _ => 0))) :: fmL Tm (g2, G.2) M2)) 1000 30000 := by
  obtain ⟨x1_3_9, x1_3_11, x1_0_13, x1_0_14, x1_0_15, x1_0_16, x1_1_1, x1_1_5, x1_34_5, x1_46_2, x1_47_1, x1_47_2, x1_47_3, x1_47_4, x1_47_5, x2_47_6, x1_27_0, x1_23_3, x1_24_0, x1_24_1, x1_24_2⟩ := hx
  obtain ⟨⟨⟨m1_4_0, m1_4_1, m1_4_2⟩, ⟨m1_7_0, m1_7_9, m1_7_10, m1_7_11, m1_7_12, m1_7_13⟩, ⟨m1_0_17, m1_0_31, m1_0_32, m1_0_33, m1_0_34⟩⟩, m1_0_1, m1_0_3, m1_2_0, m1_2_1⟩ := hm
  refine z_aloadn C.1 (pc := 429) (n := 1) 1 rfl rfl (fm_dec dtLa_5 2 rfl) ?_
  refine la_arg C (pc := 430) 1 (v := 1) rfl rfl (fm_inl (by decide)) (by decide) (by decide) (fm_dec dtLa_5 3 rfl) (fm_dec dtLa_5 4 rfl) (fm_dec dtLa_5 5 rfl) (fm_dec dtLa_5 6 rfl) (fm_dec dtLa_5 7 rfl) ?_
  refine z_aloadn C.1 (pc := 436) (n := 3) 3 rfl rfl (fm_dec dtLa_5 8 rfl) ?_
  refine z_callW C.1 (y' := qL_work) (hh := [(0, 9, 12, 13)]) (W0 := WX G g o (fmL Tm (g2, G.2) M2) (M, fun _ => 0)) (WW := WX G g o (fmL Tm (g2, G.2) M2)) (Q := fun r u => (((inR (xs 1) 0 0)) → r = 0 ∧ u.2 0 = (0 : Int32).toInt64) ∧ (¬ ((inR (xs 1) 0 0)) → r = 1)) (As := [.ref (g 0), .int (xs 1), .ref o]) (st := []) (pc := 437) (fm_in 838 (by decide +kernel) rfl) nst_L_work niL nw_L_work nd_L_work rfl rfl (by decide) (show 23 ≤ room_1.frames by decide) (show 8 + (4 + 11) + 920 ≤ room_1.locals by decide) (rm_c (k := 1000) (by decide)) (rm_s (k := 30000) (by decide)) (fm_dec dtLa_5 9 rfl) (w_work (x_work C.2.2.2.2.2 _ x1_1_1 x1_46_2 (fun M' h0 => wI_ok ⟨fun _ => ⟨rfl, rfl⟩, fun h => absurd (show (inR (xs 1) 0 0) from h0) h⟩) (fun M' hn => wI_x (⟨rfl, ⟨fun h => absurd h hn, fun _ => rfl⟩⟩)))) (fun r u hQ => ?_)
  obtain ⟨M1, f1⟩ := u
  refine z_istore C.1 (pc := 440) (i := 5) (by decide) rfl (fm_dec dtLa_5 10 rfl) ?_
  dsimp only [List.set_cons_zero, List.set_cons_succ]
  refine z_aloadn C.1 (pc := 442) (n := 2) 2 rfl rfl (fm_dec dtLa_5 11 rfl) ?_
  refine la_arg C (pc := 443) 1 (v := 1) rfl rfl (fm_inl (by decide)) (by decide) (by decide) (fm_dec dtLa_5 12 rfl) (fm_dec dtLa_5 13 rfl) (fm_dec dtLa_5 14 rfl) (fm_dec dtLa_5 15 rfl) (fm_dec dtLa_5 16 rfl) ?_
  refine z_perm (ws := fmL Tx (g, G.2) M1 ++ ((o, .inl (G.2.2.1 1, 1, .inr (.inl f1))) :: fmL Tm (g2, G.2) M2)) (wpermW _ _ _) ?_
  refine z_callX C.1 (T := Tm) (g := g2) (M := M2) (k := 0) (ci := 11) (d' := 10) (pc := 449) (As := [.int (xs 1)]) (st := []) cvL_145 (by decide) rfl rfl rfl (by decide) (rm_fr (by decide)) (rm_lo (by decide) (by decide)) (rm_c (k := 1001) (by decide)) (rm_s (k := 30006) (by decide)) (fm_dec dtLa_5 17 rfl) ?_
  refine m_work C.2.2.2.2.2 _ m1_0_1 m1_0_32 (fun M3 ht hp => ?_) (fun r9 M3 ht hn => ?_)
  · refine z_then1 ?_
    refine z_istore C.1 (pc := 452) (i := 6) (by decide) rfl (fm_dec dtLa_5 18 rfl) ?_
    dsimp only [List.set_cons_zero, List.set_cons_succ]
    exact la_tailI C (pc := 454) (by decide) (by decide) (v := 0) ((inR (xs 1) 0 0)) (show (1 : Int32) ≠ 0 by decide) hQ.1 hQ.2 (fun _ => ⟨ht, rfl⟩) (fun h => absurd hp h) (fm_dec dtLa_5 19 rfl) (fm_dec dtLa_5 20 rfl) (fm_dec dtLa_5 21 rfl) (fm_dec dtLa_5 22 rfl) (fm_dec dtLa_5 25 rfl) (fm_dec dtLa_5 26 rfl) (fm_dec dtLa_5 27 rfl) (fm_dec dtLa_5 28 rfl) (fm_dec dtLa_5 29 rfl) (fm_dec dtLa_6 0 rfl) (fm_dec dtLa_6 1 rfl) (fm_dec dtLa_6 2 rfl) (fm_dec dtLa_6 3 rfl) (by decide) (fm_dec dtLa_6 6 rfl)
  · refine z_then1 ?_
    refine z_istore C.1 (pc := 452) (i := 6) (by decide) rfl (fm_dec dtLa_5 18 rfl) ?_
    dsimp only [List.set_cons_zero, List.set_cons_succ]
    exact la_tailI C (pc := 454) (by decide) (by decide) (v := 0) ((inR (xs 1) 0 0)) (show (1 : Int32) ≠ 0 by decide) hQ.1 hQ.2 (fun h => absurd h hn) (fun _ => ht) (fm_dec dtLa_5 19 rfl) (fm_dec dtLa_5 20 rfl) (fm_dec dtLa_5 21 rfl) (fm_dec dtLa_5 22 rfl) (fm_dec dtLa_5 25 rfl) (fm_dec dtLa_5 26 rfl) (fm_dec dtLa_5 27 rfl) (fm_dec dtLa_5 28 rfl) (fm_dec dtLa_5 29 rfl) (fm_dec dtLa_6 0 rfl) (fm_dec dtLa_6 1 rfl) (fm_dec dtLa_6 2 rfl) (fm_dec dtLa_6 3 rfl) (by decide) (fm_dec dtLa_6 6 rfl)
set_option maxRecDepth 20000 in
theorem la_c4 {p : Program} {l : Launch} {e : Env} {s : State} {m : MethodId} {below : List Frame} {meth : Method} {c : Code} {G : fmG} {b : Nat} {xs : Nat → Int32} (C : laC p l s m meth c G b 7 xs) {g g2 : Nat → Nat} {M M2 : fmM} {o : Nat} (hx : xFresh M) (hm : mAll M2) : zEv p l e room_1 s m #[.ref b] below meth c G (fun q => s.heap.size ≤ q) 8 (lw_Z below #[.ref b] s) 485 [some (.ref b), some (.ref (g 0)), some (.ref (g2 0)), some (.ref o), some (.int 0), none, none, none] [] (fmL Tx (g, G.2) M ++ ((o, .inl (G.2.2.1 1, 1, .inr (.inl fun _ => 0))) :: fmL Tm (g2, G.2) M2)) 1000 30000 := by
  obtain ⟨x1_3_9, x1_3_11, x1_0_13, x1_0_14, x1_0_15, x1_0_16, x1_1_1, x1_1_5, x1_34_5, x1_46_2, x1_47_1, x1_47_2, x1_47_3, x1_47_4, x1_47_5, x2_47_6, x1_27_0, x1_23_3, x1_24_0, x1_24_1, x1_24_2⟩ := hx
  obtain ⟨⟨⟨m1_4_0, m1_4_1, m1_4_2⟩, ⟨m1_7_0, m1_7_9, m1_7_10, m1_7_11, m1_7_12, m1_7_13⟩, ⟨m1_0_17, m1_0_31, m1_0_32, m1_0_33, m1_0_34⟩⟩, m1_0_1, m1_0_3, m1_2_0, m1_2_1⟩ := hm
  refine z_aloadn C.1 (pc := 485) (n := 1) 1 rfl rfl (fm_dec dtLa_6 7 rfl) ?_
  refine la_arg C (pc := 486) 1 (v := 1) rfl rfl (fm_inl (by decide)) (by decide) (by decide) (fm_dec dtLa_6 8 rfl) (fm_dec dtLa_6 9 rfl) (fm_dec dtLa_6 10 rfl) (fm_dec dtLa_6 11 rfl) (fm_dec dtLa_6 12 rfl) ?_
  refine z_aloadn C.1 (pc := 492) (n := 3) 3 rfl rfl (fm_dec dtLa_6 13 rfl) ?_
  refine z_callW C.1 (y' := qL_page) (hh := [(0, 9, 12, 13)]) (W0 := WX G g o (fmL Tm (g2, G.2) M2) (M, fun _ => 0)) (WW := WX G g o (fmL Tm (g2, G.2) M2)) (Q := fun r u => (((inR (xs 1) 0 0)) → r = 0 ∧ u.2 0 = (0 : Int32).toInt64) ∧ (¬ ((inR (xs 1) 0 0)) → r = 1)) (As := [.ref (g 0), .int (xs 1), .ref o]) (st := []) (pc := 493) (fm_in 895 (by decide +kernel) rfl) nst_L_page niL nw_L_page nd_L_page rfl rfl (by decide) (show 23 ≤ room_1.frames by decide) (show 8 + (4 + 11) + 920 ≤ room_1.locals by decide) (rm_c (k := 1000) (by decide)) (rm_s (k := 30000) (by decide)) (fm_dec dtLa_6 14 rfl) (w_page (x_page C.2.2.2.2.2 _ x1_1_1 (fun M' h0 => wI_ok ⟨fun _ => ⟨rfl, rfl⟩, fun h => absurd (show (inR (xs 1) 0 0) from h0) h⟩) (fun M' hn => wI_x (⟨rfl, ⟨fun h => absurd h hn, fun _ => rfl⟩⟩)))) (fun r u hQ => ?_)
  obtain ⟨M1, f1⟩ := u
  refine z_istore C.1 (pc := 496) (i := 5) (by decide) rfl (fm_dec dtLa_6 15 rfl) ?_
  dsimp only [List.set_cons_zero, List.set_cons_succ]
  refine z_aloadn C.1 (pc := 498) (n := 2) 2 rfl rfl (fm_dec dtLa_6 16 rfl) ?_
  refine la_arg C (pc := 499) 1 (v := 1) rfl rfl (fm_inl (by decide)) (by decide) (by decide) (fm_dec dtLa_6 17 rfl) (fm_dec dtLa_6 18 rfl) (fm_dec dtLa_6 19 rfl) (fm_dec dtLa_6 20 rfl) (fm_dec dtLa_6 21 rfl) ?_
  refine z_perm (ws := fmL Tx (g, G.2) M1 ++ ((o, .inl (G.2.2.1 1, 1, .inr (.inl f1))) :: fmL Tm (g2, G.2) M2)) (wpermW _ _ _) ?_
  refine z_callX C.1 (T := Tm) (g := g2) (M := M2) (k := 0) (ci := 11) (d' := 3) (pc := 505) (As := [.int (xs 1)]) (st := []) cvL_148 (by decide) rfl rfl rfl (by decide) (rm_fr (by decide)) (rm_lo (by decide) (by decide)) (rm_c (k := 1001) (by decide)) (rm_s (k := 30006) (by decide)) (fm_dec dtLa_6 22 rfl) ?_
  refine m_page C.2.2.2.2.2 _ m1_0_1 (fun M3 ht hp => ?_) (fun r9 M3 ht hn => ?_)
  · refine z_then1 ?_
    refine z_istore C.1 (pc := 508) (i := 6) (by decide) rfl (fm_dec dtLa_6 23 rfl) ?_
    dsimp only [List.set_cons_zero, List.set_cons_succ]
    exact la_tailI C (pc := 510) (by decide) (by decide) (v := 0) ((inR (xs 1) 0 0)) (show (1 : Int32) ≠ 0 by decide) hQ.1 hQ.2 (fun _ => ⟨ht, rfl⟩) (fun h => absurd hp h) (fm_dec dtLa_6 24 rfl) (fm_dec dtLa_6 25 rfl) (fm_dec dtLa_6 26 rfl) (fm_dec dtLa_6 27 rfl) (fm_dec dtLa_7 0 rfl) (fm_dec dtLa_7 1 rfl) (fm_dec dtLa_7 2 rfl) (fm_dec dtLa_7 3 rfl) (fm_dec dtLa_7 4 rfl) (fm_dec dtLa_7 5 rfl) (fm_dec dtLa_7 6 rfl) (fm_dec dtLa_7 7 rfl) (fm_dec dtLa_7 8 rfl) (by decide) (fm_dec dtLa_7 11 rfl)
  · refine z_then1 ?_
    refine z_istore C.1 (pc := 508) (i := 6) (by decide) rfl (fm_dec dtLa_6 23 rfl) ?_
    dsimp only [List.set_cons_zero, List.set_cons_succ]
    exact la_tailI C (pc := 510) (by decide) (by decide) (v := 0) ((inR (xs 1) 0 0)) (show (1 : Int32) ≠ 0 by decide) hQ.1 hQ.2 (fun h => absurd h hn) (fun _ => ht) (fm_dec dtLa_6 24 rfl) (fm_dec dtLa_6 25 rfl) (fm_dec dtLa_6 26 rfl) (fm_dec dtLa_6 27 rfl) (fm_dec dtLa_7 0 rfl) (fm_dec dtLa_7 1 rfl) (fm_dec dtLa_7 2 rfl) (fm_dec dtLa_7 3 rfl) (fm_dec dtLa_7 4 rfl) (fm_dec dtLa_7 5 rfl) (fm_dec dtLa_7 6 rfl) (fm_dec dtLa_7 7 rfl) (fm_dec dtLa_7 8 rfl) (by decide) (fm_dec dtLa_7 11 rfl)
set_option maxRecDepth 20000 in
theorem la_c5 {p : Program} {l : Launch} {e : Env} {s : State} {m : MethodId} {below : List Frame} {meth : Method} {c : Code} {G : fmG} {b : Nat} {xs : Nat → Int32} (C : laC p l s m meth c G b 7 xs) {g g2 : Nat → Nat} {M M2 : fmM} {o : Nat} (hx : xFresh M) (hm : mAll M2) : zEv p l e room_1 s m #[.ref b] below meth c G (fun q => s.heap.size ≤ q) 8 (lw_Z below #[.ref b] s) 541 [some (.ref b), some (.ref (g 0)), some (.ref (g2 0)), some (.ref o), some (.int 0), none, none, none] [] (fmL Tx (g, G.2) M ++ ((o, .inl (G.2.2.1 1, 1, .inr (.inl fun _ => 0))) :: fmL Tm (g2, G.2) M2)) 1000 30000 := by
  obtain ⟨x1_3_9, x1_3_11, x1_0_13, x1_0_14, x1_0_15, x1_0_16, x1_1_1, x1_1_5, x1_34_5, x1_46_2, x1_47_1, x1_47_2, x1_47_3, x1_47_4, x1_47_5, x2_47_6, x1_27_0, x1_23_3, x1_24_0, x1_24_1, x1_24_2⟩ := hx
  obtain ⟨⟨⟨m1_4_0, m1_4_1, m1_4_2⟩, ⟨m1_7_0, m1_7_9, m1_7_10, m1_7_11, m1_7_12, m1_7_13⟩, ⟨m1_0_17, m1_0_31, m1_0_32, m1_0_33, m1_0_34⟩⟩, m1_0_1, m1_0_3, m1_2_0, m1_2_1⟩ := hm
  refine z_aloadn C.1 (pc := 541) (n := 1) 1 rfl rfl (fm_dec dtLa_7 12 rfl) ?_
  refine z_callX C.1 (T := Tx) (g := g) (M := M) (rest := (o, .inl (G.2.2.1 1, 1, .inr (.inl fun _ => 0))) :: fmL Tm (g2, G.2) M2) (k := 0) (ci := 10) (d' := 0) (pc := 542) (As := []) (st := []) cvL_149 (by decide) rfl rfl rfl (by decide) (rm_fr (by decide)) (rm_lo (by decide) (by decide)) (rm_c (k := 1000) (by decide)) (rm_s (k := 30000) (by decide)) (fm_dec dtLa_7 13 rfl) ?_
  refine x_fault C.2.2.2.2.2  x1_1_5 ?_
  refine z_then1 ?_
  refine z_aloadn C.1 (pc := 545) (n := 2) 2 rfl rfl (fm_dec dtLa_7 14 rfl) ?_
  refine z_perm (wpermW _ _ _) ?_
  refine z_callX C.1 (T := Tm) (g := g2) (M := M2) (k := 0) (ci := 11) (d' := 0) (pc := 546) (As := []) (st := [.int ((-1))]) cvL_152 (by decide) rfl rfl rfl (Nat.le_of_ble_eq_true rfl) (rm_fr (by decide)) (rm_lo (by decide) (by decide)) (rm_c (k := 1000) (by decide)) (rm_s (k := 30000) (by decide)) (fm_dec dtLa_7 15 rfl) ?_
  refine m_fault C.2.2.2.2.2  m1_0_3 ?_
  refine z_then1 ?_
  refine z_icmp_eq C.1 (pc := 549) 2854 (by decide) (fm_dec dtLa_7 16 rfl) (fun _ => ?_) (fun h => absurd rfl h)
  exact la_end C rfl (by decide) (by decide)
set_option maxRecDepth 20000 in
theorem la_c6 {p : Program} {l : Launch} {e : Env} {s : State} {m : MethodId} {below : List Frame} {meth : Method} {c : Code} {G : fmG} {b : Nat} {xs : Nat → Int32} (C : laC p l s m meth c G b 7 xs) {g g2 : Nat → Nat} {M M2 : fmM} {o : Nat} (hx : xFresh M) (hm : mAll M2) : zEv p l e room_1 s m #[.ref b] below meth c G (fun q => s.heap.size ≤ q) 8 (lw_Z below #[.ref b] s) 554 [some (.ref b), some (.ref (g 0)), some (.ref (g2 0)), some (.ref o), some (.int 0), none, none, none] [] (fmL Tx (g, G.2) M ++ ((o, .inl (G.2.2.1 1, 1, .inr (.inl fun _ => 0))) :: fmL Tm (g2, G.2) M2)) 1000 30000 := by
  obtain ⟨x1_3_9, x1_3_11, x1_0_13, x1_0_14, x1_0_15, x1_0_16, x1_1_1, x1_1_5, x1_34_5, x1_46_2, x1_47_1, x1_47_2, x1_47_3, x1_47_4, x1_47_5, x2_47_6, x1_27_0, x1_23_3, x1_24_0, x1_24_1, x1_24_2⟩ := hx
  obtain ⟨⟨⟨m1_4_0, m1_4_1, m1_4_2⟩, ⟨m1_7_0, m1_7_9, m1_7_10, m1_7_11, m1_7_12, m1_7_13⟩, ⟨m1_0_17, m1_0_31, m1_0_32, m1_0_33, m1_0_34⟩⟩, m1_0_1, m1_0_3, m1_2_0, m1_2_1⟩ := hm
  refine z_aloadn C.1 (pc := 554) (n := 1) 1 rfl rfl (fm_dec dtLa_7 19 rfl) ?_
  refine z_callX C.1 (T := Tx) (g := g) (M := M) (rest := (o, .inl (G.2.2.1 1, 1, .inr (.inl fun _ => 0))) :: fmL Tm (g2, G.2) M2) (k := 0) (ci := 10) (d' := 2) (pc := 555) (As := []) (st := []) cvL_153 (by decide) rfl rfl rfl (by decide) (rm_fr (by decide)) (rm_lo (by decide) (by decide)) (rm_c (k := 1000) (by decide)) (rm_s (k := 30000) (by decide)) (fm_dec dtLa_7 20 rfl) ?_
  refine x_undo C.2.2.2.2.2  x1_46_2 ?_
  refine z_then1 ?_
  refine z_aloadn C.1 (pc := 558) (n := 2) 2 rfl rfl (fm_dec dtLa_7 21 rfl) ?_
  refine z_perm (wpermW _ _ _) ?_
  refine z_callX C.1 (T := Tm) (g := g2) (M := M2) (k := 0) (ci := 11) (d' := 1) (pc := 559) (As := []) (st := [.int ((-1))]) cvL_156 (by decide) rfl rfl rfl (Nat.le_of_ble_eq_true rfl) (rm_fr (by decide)) (rm_lo (by decide) (by decide)) (rm_c (k := 1000) (by decide)) (rm_s (k := 30000) (by decide)) (fm_dec dtLa_7 22 rfl) ?_
  refine m_undo C.2.2.2.2.2  m1_0_32 (fun M3 => ?_)
  refine z_then1 ?_
  refine z_icmp_eq C.1 (pc := 562) 2854 (by decide) (fm_dec dtLa_7 23 rfl) (fun _ => ?_) (fun h => absurd rfl h)
  exact la_end C rfl (by decide) (by decide)
set_option maxRecDepth 20000 in
theorem la_c7 {p : Program} {l : Launch} {e : Env} {s : State} {m : MethodId} {below : List Frame} {meth : Method} {c : Code} {G : fmG} {b : Nat} {xs : Nat → Int32} (C : laC p l s m meth c G b 7 xs) {g g2 : Nat → Nat} {M M2 : fmM} {o : Nat} (hx : xFresh M) (hm : mAll M2) : zEv p l e room_1 s m #[.ref b] below meth c G (fun q => s.heap.size ≤ q) 8 (lw_Z below #[.ref b] s) 567 [some (.ref b), some (.ref (g 0)), some (.ref (g2 0)), some (.ref o), some (.int 0), none, none, none] [] (fmL Tx (g, G.2) M ++ ((o, .inl (G.2.2.1 1, 1, .inr (.inl fun _ => 0))) :: fmL Tm (g2, G.2) M2)) 1000 30000 := by
  obtain ⟨x1_3_9, x1_3_11, x1_0_13, x1_0_14, x1_0_15, x1_0_16, x1_1_1, x1_1_5, x1_34_5, x1_46_2, x1_47_1, x1_47_2, x1_47_3, x1_47_4, x1_47_5, x2_47_6, x1_27_0, x1_23_3, x1_24_0, x1_24_1, x1_24_2⟩ := hx
  obtain ⟨⟨⟨m1_4_0, m1_4_1, m1_4_2⟩, ⟨m1_7_0, m1_7_9, m1_7_10, m1_7_11, m1_7_12, m1_7_13⟩, ⟨m1_0_17, m1_0_31, m1_0_32, m1_0_33, m1_0_34⟩⟩, m1_0_1, m1_0_3, m1_2_0, m1_2_1⟩ := hm
  refine z_aloadn C.1 (pc := 567) (n := 1) 1 rfl rfl (fm_dec dtLa_7 26 rfl) ?_
  refine la_arg C (pc := 568) 1 (v := 1) rfl rfl (fm_inl (by decide)) (by decide) (by decide) (fm_dec dtLa_7 27 rfl) (fm_dec dtLa_7 28 rfl) (fm_dec dtLa_7 29 rfl) (fm_dec dtLa_8 0 rfl) (fm_dec dtLa_8 1 rfl) ?_
  refine z_aloadn C.1 (pc := 574) (n := 3) 3 rfl rfl (fm_dec dtLa_8 2 rfl) ?_
  refine z_callW C.1 (y' := qL_told) (hh := [(0, 9, 12, 13)]) (W0 := WX G g o (fmL Tm (g2, G.2) M2) (M, fun _ => 0)) (WW := WX G g o (fmL Tm (g2, G.2) M2)) (Q := fun r u => (((inR (xs 1) 0 8)) → r = 0 ∧ u.2 0 = ((if (xs 1) = 2 then 8 else 0) : Int32).toInt64) ∧ (¬ ((inR (xs 1) 0 8)) → r = 1)) (As := [.ref (g 0), .int (xs 1), .ref o]) (st := []) (pc := 575) (fm_in 918 (by decide +kernel) rfl) nst_L_told niL nw_L_told nd_L_told rfl rfl (by decide) (show 23 ≤ room_1.frames by decide) (show 8 + (4 + 11) + 920 ≤ room_1.locals by decide) (rm_c (k := 1000) (by decide)) (rm_s (k := 30000) (by decide)) (fm_dec dtLa_8 3 rfl) (w_told (c_told0 C.2.2.2.2.2 _ x1_3_9 x1_47_2 x1_47_3 x1_47_1 x1_47_4 x1_47_5 x1_27_0 x1_0_14 (fun M' h0 => wI_ok ⟨fun _ => ⟨rfl, rfl⟩, fun h => absurd (show (inR (xs 1) 0 8) from h0) h⟩) (fun M' hn => wI_x (⟨rfl, ⟨fun h => absurd h hn, fun _ => rfl⟩⟩)))) (fun r u hQ => ?_)
  obtain ⟨M1, f1⟩ := u
  refine z_istore C.1 (pc := 578) (i := 5) (by decide) rfl (fm_dec dtLa_8 4 rfl) ?_
  dsimp only [List.set_cons_zero, List.set_cons_succ]
  refine z_aloadn C.1 (pc := 580) (n := 2) 2 rfl rfl (fm_dec dtLa_8 5 rfl) ?_
  refine la_arg C (pc := 581) 1 (v := 1) rfl rfl (fm_inl (by decide)) (by decide) (by decide) (fm_dec dtLa_8 6 rfl) (fm_dec dtLa_8 7 rfl) (fm_dec dtLa_8 8 rfl) (fm_dec dtLa_8 9 rfl) (fm_dec dtLa_8 10 rfl) ?_
  refine z_perm (ws := fmL Tx (g, G.2) M1 ++ ((o, .inl (G.2.2.1 1, 1, .inr (.inl f1))) :: fmL Tm (g2, G.2) M2)) (wpermW _ _ _) ?_
  refine z_callX C.1 (T := Tm) (g := g2) (M := M2) (k := 0) (ci := 11) (d' := 2) (pc := 587) (As := [.int (xs 1)]) (st := []) cvL_159 (by decide) rfl rfl rfl (by decide) (rm_fr (by decide)) (rm_lo (by decide) (by decide)) (rm_c (k := 1001) (by decide)) (rm_s (k := 30006) (by decide)) (fm_dec dtLa_8 11 rfl) ?_
  refine m_told C.2.2.2.2.2 _ m1_4_0 m1_7_10 m1_7_9 m1_7_11 m1_7_12 m1_0_31 m1_0_33 (fun M3 ht hp => ?_) (fun r9 M3 ht hn => ?_)
  · refine z_then1 ?_
    refine z_istore C.1 (pc := 590) (i := 6) (by decide) rfl (fm_dec dtLa_8 12 rfl) ?_
    dsimp only [List.set_cons_zero, List.set_cons_succ]
    exact la_tailI C (pc := 592) (by decide) (by decide) (v := (if (xs 1) = 2 then 8 else 0)) ((inR (xs 1) 0 8)) (show (1 : Int32) ≠ 0 by decide) hQ.1 hQ.2 (fun _ => ⟨ht, rfl⟩) (fun h => absurd hp h) (fm_dec dtLa_8 13 rfl) (fm_dec dtLa_8 14 rfl) (fm_dec dtLa_8 15 rfl) (fm_dec dtLa_8 16 rfl) (fm_dec dtLa_8 19 rfl) (fm_dec dtLa_8 20 rfl) (fm_dec dtLa_8 21 rfl) (fm_dec dtLa_8 22 rfl) (fm_dec dtLa_8 23 rfl) (fm_dec dtLa_8 24 rfl) (fm_dec dtLa_8 25 rfl) (fm_dec dtLa_8 26 rfl) (fm_dec dtLa_8 27 rfl) (by decide) (fm_dec dtLa_9 0 rfl)
  · refine z_then1 ?_
    refine z_istore C.1 (pc := 590) (i := 6) (by decide) rfl (fm_dec dtLa_8 12 rfl) ?_
    dsimp only [List.set_cons_zero, List.set_cons_succ]
    exact la_tailI C (pc := 592) (by decide) (by decide) (v := (if (xs 1) = 2 then 8 else 0)) ((inR (xs 1) 0 8)) (show (1 : Int32) ≠ 0 by decide) hQ.1 hQ.2 (fun h => absurd h hn) (fun _ => ht) (fm_dec dtLa_8 13 rfl) (fm_dec dtLa_8 14 rfl) (fm_dec dtLa_8 15 rfl) (fm_dec dtLa_8 16 rfl) (fm_dec dtLa_8 19 rfl) (fm_dec dtLa_8 20 rfl) (fm_dec dtLa_8 21 rfl) (fm_dec dtLa_8 22 rfl) (fm_dec dtLa_8 23 rfl) (fm_dec dtLa_8 24 rfl) (fm_dec dtLa_8 25 rfl) (fm_dec dtLa_8 26 rfl) (fm_dec dtLa_8 27 rfl) (by decide) (fm_dec dtLa_9 0 rfl)
set_option maxRecDepth 20000 in
theorem la_c8 {p : Program} {l : Launch} {e : Env} {s : State} {m : MethodId} {below : List Frame} {meth : Method} {c : Code} {G : fmG} {b : Nat} {xs : Nat → Int32} (C : laC p l s m meth c G b 7 xs) {g g2 : Nat → Nat} {M M2 : fmM} {o : Nat} (hx : xFresh M) (hm : mAll M2) : zEv p l e room_1 s m #[.ref b] below meth c G (fun q => s.heap.size ≤ q) 8 (lw_Z below #[.ref b] s) 623 [some (.ref b), some (.ref (g 0)), some (.ref (g2 0)), some (.ref o), some (.int 0), none, none, none] [] (fmL Tx (g, G.2) M ++ ((o, .inl (G.2.2.1 1, 1, .inr (.inl fun _ => 0))) :: fmL Tm (g2, G.2) M2)) 1000 30000 := by
  obtain ⟨x1_3_9, x1_3_11, x1_0_13, x1_0_14, x1_0_15, x1_0_16, x1_1_1, x1_1_5, x1_34_5, x1_46_2, x1_47_1, x1_47_2, x1_47_3, x1_47_4, x1_47_5, x2_47_6, x1_27_0, x1_23_3, x1_24_0, x1_24_1, x1_24_2⟩ := hx
  obtain ⟨⟨⟨m1_4_0, m1_4_1, m1_4_2⟩, ⟨m1_7_0, m1_7_9, m1_7_10, m1_7_11, m1_7_12, m1_7_13⟩, ⟨m1_0_17, m1_0_31, m1_0_32, m1_0_33, m1_0_34⟩⟩, m1_0_1, m1_0_3, m1_2_0, m1_2_1⟩ := hm
  refine z_aloadn C.1 (pc := 623) (n := 1) 1 rfl rfl (fm_dec dtLa_9 1 rfl) ?_
  refine la_arg C (pc := 624) 1 (v := 1) rfl rfl (fm_inl (by decide)) (by decide) (by decide) (fm_dec dtLa_9 2 rfl) (fm_dec dtLa_9 3 rfl) (fm_dec dtLa_9 4 rfl) (fm_dec dtLa_9 5 rfl) (fm_dec dtLa_9 6 rfl) ?_
  refine la_arg C (pc := 630) 2 (v := 2) rfl rfl (fm_inl (by decide)) (by decide) (by decide) (fm_dec dtLa_9 7 rfl) (fm_dec dtLa_9 8 rfl) (fm_dec dtLa_9 9 rfl) (fm_dec dtLa_9 10 rfl) (fm_dec dtLa_9 11 rfl) ?_
  refine z_aloadn C.1 (pc := 636) (n := 3) 3 rfl rfl (fm_dec dtLa_9 12 rfl) ?_
  refine z_callW C.1 (y' := qL_life) (hh := [(0, 10, 13, 31), (0, 10, 17, 13)]) (W0 := WX G g o (fmL Tm (g2, G.2) M2) (M, fun _ => 0)) (WW := WX G g o (fmL Tm (g2, G.2) M2)) (Q := fun r u => ((False) → r = 0 ∧ u.2 0 = (0 : Int32).toInt64) ∧ (¬ (False) → r = 1)) (As := [.ref (g 0), .int (xs 1), .int (xs 2), .ref o]) (st := []) (pc := 637) (fm_in 930 (by decide +kernel) rfl) nst_L_life niL nw_L_life nd_L_life rfl rfl (by decide) (show 23 ≤ room_1.frames by decide) (show 8 + (5 + 11) + 920 ≤ room_1.locals by decide) (rm_c (k := 1000) (by decide)) (rm_s (k := 30000) (by decide)) (fm_dec dtLa_9 13 rfl) (w_life (x_life C.2.2.2.2.2 _ _ x1_3_9 (fun M' => wI_x (Or.inl ⟨rfl, ⟨fun h => h.elim, fun _ => rfl⟩⟩)))) (fun r u hQ => ?_)
  obtain ⟨M1, f1⟩ := u
  refine z_istore C.1 (pc := 640) (i := 5) (by decide) rfl (fm_dec dtLa_9 14 rfl) ?_
  dsimp only [List.set_cons_zero, List.set_cons_succ]
  refine z_aloadn C.1 (pc := 642) (n := 2) 2 rfl rfl (fm_dec dtLa_9 15 rfl) ?_
  refine la_arg C (pc := 643) 1 (v := 1) rfl rfl (fm_inl (by decide)) (by decide) (by decide) (fm_dec dtLa_9 16 rfl) (fm_dec dtLa_9 17 rfl) (fm_dec dtLa_9 18 rfl) (fm_dec dtLa_9 19 rfl) (fm_dec dtLa_9 20 rfl) ?_
  refine la_arg C (pc := 649) 2 (v := 2) rfl rfl (fm_inl (by decide)) (by decide) (by decide) (fm_dec dtLa_9 21 rfl) (fm_dec dtLa_9 22 rfl) (fm_dec dtLa_9 23 rfl) (fm_dec dtLa_9 24 rfl) (fm_dec dtLa_9 25 rfl) ?_
  refine z_perm (ws := fmL Tx (g, G.2) M1 ++ ((o, .inl (G.2.2.1 1, 1, .inr (.inl f1))) :: fmL Tm (g2, G.2) M2)) (wpermW _ _ _) ?_
  refine z_callX C.1 (T := Tm) (g := g2) (M := M2) (k := 0) (ci := 11) (d' := 2) (pc := 655) (As := [.int (xs 1), .int (xs 2)]) (st := []) cvL_163 (by decide) rfl rfl rfl (by decide) (rm_fr (by decide)) (rm_lo (by decide) (by decide)) (rm_c (k := 1001) (by decide)) (rm_s (k := 30006) (by decide)) (fm_dec dtLa_9 26 rfl) ?_
  refine m_life C.2.2.2.2.2 _ _ m1_4_0 (fun r9 M3 ht => ?_)
  refine z_then1 ?_
  refine z_istore C.1 (pc := 658) (i := 6) (by decide) rfl (fm_dec dtLa_9 27 rfl) ?_
  dsimp only [List.set_cons_zero, List.set_cons_succ]
  exact la_tailI C (pc := 660) (by decide) (by decide) (v := 0) (False) (show (1 : Int32) ≠ 0 by decide) hQ.1 hQ.2 (fun h => h.elim) (fun _ => ht) (fm_dec dtLa_9 28 rfl) (fm_dec dtLa_9 29 rfl) (fm_dec dtLa_10 0 rfl) (fm_dec dtLa_10 1 rfl) (fm_dec dtLa_10 4 rfl) (fm_dec dtLa_10 5 rfl) (fm_dec dtLa_10 6 rfl) (fm_dec dtLa_10 7 rfl) (fm_dec dtLa_10 8 rfl) (fm_dec dtLa_10 9 rfl) (fm_dec dtLa_10 10 rfl) (fm_dec dtLa_10 11 rfl) (fm_dec dtLa_10 12 rfl) (by decide) (fm_dec dtLa_10 15 rfl)
set_option maxRecDepth 20000 in
theorem la_c9 {p : Program} {l : Launch} {e : Env} {s : State} {m : MethodId} {below : List Frame} {meth : Method} {c : Code} {G : fmG} {b : Nat} {xs : Nat → Int32} (C : laC p l s m meth c G b 7 xs) {g g2 : Nat → Nat} {M M2 : fmM} {o : Nat} (hx : xFresh M) (hm : mAll M2) : zEv p l e room_1 s m #[.ref b] below meth c G (fun q => s.heap.size ≤ q) 8 (lw_Z below #[.ref b] s) 691 [some (.ref b), some (.ref (g 0)), some (.ref (g2 0)), some (.ref o), some (.int 0), none, none, none] [] (fmL Tx (g, G.2) M ++ ((o, .inl (G.2.2.1 1, 1, .inr (.inl fun _ => 0))) :: fmL Tm (g2, G.2) M2)) 1000 30000 := by
  obtain ⟨x1_3_9, x1_3_11, x1_0_13, x1_0_14, x1_0_15, x1_0_16, x1_1_1, x1_1_5, x1_34_5, x1_46_2, x1_47_1, x1_47_2, x1_47_3, x1_47_4, x1_47_5, x2_47_6, x1_27_0, x1_23_3, x1_24_0, x1_24_1, x1_24_2⟩ := hx
  obtain ⟨⟨⟨m1_4_0, m1_4_1, m1_4_2⟩, ⟨m1_7_0, m1_7_9, m1_7_10, m1_7_11, m1_7_12, m1_7_13⟩, ⟨m1_0_17, m1_0_31, m1_0_32, m1_0_33, m1_0_34⟩⟩, m1_0_1, m1_0_3, m1_2_0, m1_2_1⟩ := hm
  refine z_aloadn C.1 (pc := 691) (n := 1) 1 rfl rfl (fm_dec dtLa_10 16 rfl) ?_
  refine la_arg C (pc := 692) 1 (v := 1) rfl rfl (fm_inl (by decide)) (by decide) (by decide) (fm_dec dtLa_10 17 rfl) (fm_dec dtLa_10 18 rfl) (fm_dec dtLa_10 19 rfl) (fm_dec dtLa_10 20 rfl) (fm_dec dtLa_10 21 rfl) ?_
  refine z_aloadn C.1 (pc := 698) (n := 3) 3 rfl rfl (fm_dec dtLa_10 22 rfl) ?_
  refine z_callW C.1 (y' := qL_facts) (hh := [(0, 9, 12, 31)]) (W0 := WX G g o (fmL Tm (g2, G.2) M2) (M, fun _ => 0)) (WW := WX G g o (fmL Tm (g2, G.2) M2)) (Q := fun r u => ((False) → r = 0 ∧ u.2 0 = (0 : Int32).toInt64) ∧ (¬ (False) → r = 1)) (As := [.ref (g 0), .int (xs 1), .ref o]) (st := []) (pc := 699) (fm_in 960 (by decide +kernel) rfl) nst_L_facts niL nw_L_facts nd_L_facts rfl rfl (by decide) (show 23 ≤ room_1.frames by decide) (show 8 + (4 + 11) + 920 ≤ room_1.locals by decide) (rm_c (k := 1000) (by decide)) (rm_s (k := 30000) (by decide)) (fm_dec dtLa_10 23 rfl) (w_facts (x_facts C.2.2.2.2.2 _ x1_3_9 (fun M' => wI_x (⟨rfl, ⟨fun h => h.elim, fun _ => rfl⟩⟩)))) (fun r u hQ => ?_)
  obtain ⟨M1, f1⟩ := u
  refine z_istore C.1 (pc := 702) (i := 5) (by decide) rfl (fm_dec dtLa_10 24 rfl) ?_
  dsimp only [List.set_cons_zero, List.set_cons_succ]
  refine z_aloadn C.1 (pc := 704) (n := 2) 2 rfl rfl (fm_dec dtLa_10 25 rfl) ?_
  refine la_arg C (pc := 705) 1 (v := 1) rfl rfl (fm_inl (by decide)) (by decide) (by decide) (fm_dec dtLa_10 26 rfl) (fm_dec dtLa_10 27 rfl) (fm_dec dtLa_10 28 rfl) (fm_dec dtLa_10 29 rfl) (fm_dec dtLa_11 0 rfl) ?_
  refine z_perm (ws := fmL Tx (g, G.2) M1 ++ ((o, .inl (G.2.2.1 1, 1, .inr (.inl f1))) :: fmL Tm (g2, G.2) M2)) (wpermW _ _ _) ?_
  refine z_callX C.1 (T := Tm) (g := g2) (M := M2) (k := 0) (ci := 11) (d' := 2) (pc := 711) (As := [.int (xs 1)]) (st := []) cvL_166 (by decide) rfl rfl rfl (by decide) (rm_fr (by decide)) (rm_lo (by decide) (by decide)) (rm_c (k := 1001) (by decide)) (rm_s (k := 30006) (by decide)) (fm_dec dtLa_11 1 rfl) ?_
  refine m_facts C.2.2.2.2.2 _ m1_4_0 (fun r9 M3 ht => ?_)
  refine z_then1 ?_
  refine z_istore C.1 (pc := 714) (i := 6) (by decide) rfl (fm_dec dtLa_11 2 rfl) ?_
  dsimp only [List.set_cons_zero, List.set_cons_succ]
  exact la_tailI C (pc := 716) (by decide) (by decide) (v := 0) (False) (show (1 : Int32) ≠ 0 by decide) hQ.1 hQ.2 (fun h => h.elim) (fun _ => ht) (fm_dec dtLa_11 3 rfl) (fm_dec dtLa_11 4 rfl) (fm_dec dtLa_11 5 rfl) (fm_dec dtLa_11 6 rfl) (fm_dec dtLa_11 9 rfl) (fm_dec dtLa_11 10 rfl) (fm_dec dtLa_11 11 rfl) (fm_dec dtLa_11 12 rfl) (fm_dec dtLa_11 13 rfl) (fm_dec dtLa_11 14 rfl) (fm_dec dtLa_11 15 rfl) (fm_dec dtLa_11 16 rfl) (fm_dec dtLa_11 17 rfl) (by decide) (fm_dec dtLa_11 20 rfl)
set_option maxRecDepth 20000 in
theorem la_c10 {p : Program} {l : Launch} {e : Env} {s : State} {m : MethodId} {below : List Frame} {meth : Method} {c : Code} {G : fmG} {b : Nat} {xs : Nat → Int32} (C : laC p l s m meth c G b 7 xs) {g g2 : Nat → Nat} {M M2 : fmM} {o : Nat} (hx : xFresh M) (hm : mAll M2) : zEv p l e room_1 s m #[.ref b] below meth c G (fun q => s.heap.size ≤ q) 8 (lw_Z below #[.ref b] s) 747 [some (.ref b), some (.ref (g 0)), some (.ref (g2 0)), some (.ref o), some (.int 0), none, none, none] [] (fmL Tx (g, G.2) M ++ ((o, .inl (G.2.2.1 1, 1, .inr (.inl fun _ => 0))) :: fmL Tm (g2, G.2) M2)) 1000 30000 := by
  obtain ⟨x1_3_9, x1_3_11, x1_0_13, x1_0_14, x1_0_15, x1_0_16, x1_1_1, x1_1_5, x1_34_5, x1_46_2, x1_47_1, x1_47_2, x1_47_3, x1_47_4, x1_47_5, x2_47_6, x1_27_0, x1_23_3, x1_24_0, x1_24_1, x1_24_2⟩ := hx
  obtain ⟨⟨⟨m1_4_0, m1_4_1, m1_4_2⟩, ⟨m1_7_0, m1_7_9, m1_7_10, m1_7_11, m1_7_12, m1_7_13⟩, ⟨m1_0_17, m1_0_31, m1_0_32, m1_0_33, m1_0_34⟩⟩, m1_0_1, m1_0_3, m1_2_0, m1_2_1⟩ := hm
  refine z_aloadn C.1 (pc := 747) (n := 1) 1 rfl rfl (fm_dec dtLa_11 21 rfl) ?_
  refine la_arg C (pc := 748) 1 (v := 1) rfl rfl (fm_inl (by decide)) (by decide) (by decide) (fm_dec dtLa_11 22 rfl) (fm_dec dtLa_11 23 rfl) (fm_dec dtLa_11 24 rfl) (fm_dec dtLa_11 25 rfl) (fm_dec dtLa_11 26 rfl) ?_
  refine z_aloadn C.1 (pc := 754) (n := 3) 3 rfl rfl (fm_dec dtLa_11 27 rfl) ?_
  refine z_callW C.1 (y' := qL_wrong) (hh := [(0, 9, 12, 31)]) (W0 := WX G g o (fmL Tm (g2, G.2) M2) (M, fun _ => 0)) (WW := WX G g o (fmL Tm (g2, G.2) M2)) (Q := fun r u => ((False) → r = 0 ∧ u.2 0 = (0 : Int32).toInt64) ∧ (¬ (False) → r = 1)) (As := [.ref (g 0), .int (xs 1), .ref o]) (st := []) (pc := 755) (fm_in 967 (by decide +kernel) rfl) nst_L_wrong niL nw_L_wrong nd_L_wrong rfl rfl (by decide) (show 23 ≤ room_1.frames by decide) (show 8 + (4 + 11) + 920 ≤ room_1.locals by decide) (rm_c (k := 1000) (by decide)) (rm_s (k := 30000) (by decide)) (fm_dec dtLa_11 28 rfl) (w_wrong (x_wrong C.2.2.2.2.2 _ x1_3_9 (fun M' => wI_x (⟨rfl, ⟨fun h => h.elim, fun _ => rfl⟩⟩)))) (fun r u hQ => ?_)
  obtain ⟨M1, f1⟩ := u
  refine z_istore C.1 (pc := 758) (i := 5) (by decide) rfl (fm_dec dtLa_11 29 rfl) ?_
  dsimp only [List.set_cons_zero, List.set_cons_succ]
  refine z_aloadn C.1 (pc := 760) (n := 2) 2 rfl rfl (fm_dec dtLa_12 0 rfl) ?_
  refine la_arg C (pc := 761) 1 (v := 1) rfl rfl (fm_inl (by decide)) (by decide) (by decide) (fm_dec dtLa_12 1 rfl) (fm_dec dtLa_12 2 rfl) (fm_dec dtLa_12 3 rfl) (fm_dec dtLa_12 4 rfl) (fm_dec dtLa_12 5 rfl) ?_
  refine z_perm (ws := fmL Tx (g, G.2) M1 ++ ((o, .inl (G.2.2.1 1, 1, .inr (.inl f1))) :: fmL Tm (g2, G.2) M2)) (wpermW _ _ _) ?_
  refine z_callX C.1 (T := Tm) (g := g2) (M := M2) (k := 0) (ci := 11) (d' := 6) (pc := 767) (As := [.int (xs 1)]) (st := []) cvL_169 (by decide) rfl rfl rfl (by decide) (rm_fr (by decide)) (rm_lo (by decide) (by decide)) (rm_c (k := 1001) (by decide)) (rm_s (k := 30006) (by decide)) (fm_dec dtLa_12 6 rfl) ?_
  refine m_wrong C.2.2.2.2.2 _ m1_4_0 (fun r9 M3 ht => ?_)
  refine z_then1 ?_
  refine z_istore C.1 (pc := 770) (i := 6) (by decide) rfl (fm_dec dtLa_12 7 rfl) ?_
  dsimp only [List.set_cons_zero, List.set_cons_succ]
  exact la_tailI C (pc := 772) (by decide) (by decide) (v := 0) (False) (show (1 : Int32) ≠ 0 by decide) hQ.1 hQ.2 (fun h => h.elim) (fun _ => ht) (fm_dec dtLa_12 8 rfl) (fm_dec dtLa_12 9 rfl) (fm_dec dtLa_12 10 rfl) (fm_dec dtLa_12 11 rfl) (fm_dec dtLa_12 14 rfl) (fm_dec dtLa_12 15 rfl) (fm_dec dtLa_12 16 rfl) (fm_dec dtLa_12 17 rfl) (fm_dec dtLa_12 18 rfl) (fm_dec dtLa_12 19 rfl) (fm_dec dtLa_12 20 rfl) (fm_dec dtLa_12 21 rfl) (fm_dec dtLa_12 22 rfl) (by decide) (fm_dec dtLa_12 25 rfl)
set_option maxRecDepth 20000 in
theorem la_c11 {p : Program} {l : Launch} {e : Env} {s : State} {m : MethodId} {below : List Frame} {meth : Method} {c : Code} {G : fmG} {b : Nat} {xs : Nat → Int32} (C : laC p l s m meth c G b 7 xs) {g g2 : Nat → Nat} {M M2 : fmM} {o : Nat} (hx : xFresh M) (hm : mAll M2) : zEv p l e room_1 s m #[.ref b] below meth c G (fun q => s.heap.size ≤ q) 8 (lw_Z below #[.ref b] s) 803 [some (.ref b), some (.ref (g 0)), some (.ref (g2 0)), some (.ref o), some (.int 0), none, none, none] [] (fmL Tx (g, G.2) M ++ ((o, .inl (G.2.2.1 1, 1, .inr (.inl fun _ => 0))) :: fmL Tm (g2, G.2) M2)) 1000 30000 := by
  obtain ⟨x1_3_9, x1_3_11, x1_0_13, x1_0_14, x1_0_15, x1_0_16, x1_1_1, x1_1_5, x1_34_5, x1_46_2, x1_47_1, x1_47_2, x1_47_3, x1_47_4, x1_47_5, x2_47_6, x1_27_0, x1_23_3, x1_24_0, x1_24_1, x1_24_2⟩ := hx
  obtain ⟨⟨⟨m1_4_0, m1_4_1, m1_4_2⟩, ⟨m1_7_0, m1_7_9, m1_7_10, m1_7_11, m1_7_12, m1_7_13⟩, ⟨m1_0_17, m1_0_31, m1_0_32, m1_0_33, m1_0_34⟩⟩, m1_0_1, m1_0_3, m1_2_0, m1_2_1⟩ := hm
  refine z_aloadn C.1 (pc := 803) (n := 1) 1 rfl rfl (fm_dec dtLa_12 26 rfl) ?_
  refine la_arg C (pc := 804) 1 (v := 1) rfl rfl (fm_inl (by decide)) (by decide) (by decide) (fm_dec dtLa_12 27 rfl) (fm_dec dtLa_12 28 rfl) (fm_dec dtLa_12 29 rfl) (fm_dec dtLa_13 0 rfl) (fm_dec dtLa_13 1 rfl) ?_
  refine la_arg C (pc := 810) 2 (v := 2) rfl rfl (fm_inl (by decide)) (by decide) (by decide) (fm_dec dtLa_13 2 rfl) (fm_dec dtLa_13 3 rfl) (fm_dec dtLa_13 4 rfl) (fm_dec dtLa_13 5 rfl) (fm_dec dtLa_13 6 rfl) ?_
  refine la_arg C (pc := 816) 3 (v := 3) rfl rfl (fm_inl (by decide)) (by decide) (by decide) (fm_dec dtLa_13 7 rfl) (fm_dec dtLa_13 8 rfl) (fm_dec dtLa_13 9 rfl) (fm_dec dtLa_13 10 rfl) (fm_dec dtLa_13 11 rfl) ?_
  refine la_arg C (pc := 822) 4 (v := 4) rfl rfl (fm_inl (by decide)) (by decide) (by decide) (fm_dec dtLa_13 12 rfl) (fm_dec dtLa_13 13 rfl) (fm_dec dtLa_13 14 rfl) (fm_dec dtLa_13 15 rfl) (fm_dec dtLa_13 16 rfl) ?_
  refine la_arg C (pc := 828) 5 (v := 5) rfl rfl (fm_inl (by decide)) (by decide) (by decide) (fm_dec dtLa_13 17 rfl) (fm_dec dtLa_13 18 rfl) (fm_dec dtLa_13 19 rfl) (fm_dec dtLa_13 20 rfl) (fm_dec dtLa_13 21 rfl) ?_
  refine z_aloadn C.1 (pc := 834) (n := 3) 3 rfl rfl (fm_dec dtLa_13 22 rfl) ?_
  refine z_callW C.1 (y' := qL_would) (hh := [(0, 16, 19, 13)]) (W0 := WX G g o (fmL Tm (g2, G.2) M2) (M, fun _ => 0)) (WW := WX G g o (fmL Tm (g2, G.2) M2)) (Q := fun r u => (((inR (xs 1) 0 200 ∧ inR (xs 2) 0 200 ∧ inR (xs 3) 1 99 ∧ inR (xs 4) 0 1 ∧ inR (xs 5) 0 24)) → r = 0 ∧ u.2 0 = ((if 0 < (if (xs 1) + (xs 1) < 64 then (xs 1) + (xs 1) else 64) then (if (xs 1) + (xs 1) < 64 then (xs 1) + (xs 1) else 64) else 0) : Int32).toInt64) ∧ (¬ ((inR (xs 1) 0 200 ∧ inR (xs 2) 0 200 ∧ inR (xs 3) 1 99 ∧ inR (xs 4) 0 1 ∧ inR (xs 5) 0 24)) → r = 1)) (As := [.ref (g 0), .int (xs 1), .int (xs 2), .int (xs 3), .int (xs 4), .int (xs 5), .ref o]) (st := []) (pc := 835) (fm_in 975 (by decide +kernel) rfl) nst_L_would niL nw_L_would nd_L_would rfl rfl (by decide) (show 23 ≤ room_1.frames by decide) (show 8 + (8 + 11) + 920 ≤ room_1.locals by decide) (rm_c (k := 1000) (by decide)) (rm_s (k := 30000) (by decide)) (fm_dec dtLa_13 23 rfl) (w_would (x_would C.2.2.2.2.2 _ _ _ _ _ x1_23_3 x1_24_0 x1_24_1 x1_24_2 (fun M' h0 => wI_ok ⟨fun _ => ⟨rfl, rfl⟩, fun h => absurd (show (inR (xs 1) 0 200 ∧ inR (xs 2) 0 200 ∧ inR (xs 3) 1 99 ∧ inR (xs 4) 0 1 ∧ inR (xs 5) 0 24) from h0) h⟩) (fun M' hn => wI_x (⟨rfl, ⟨fun h => absurd h hn, fun _ => rfl⟩⟩)))) (fun r u hQ => ?_)
  obtain ⟨M1, f1⟩ := u
  refine z_istore C.1 (pc := 838) (i := 5) (by decide) rfl (fm_dec dtLa_13 24 rfl) ?_
  dsimp only [List.set_cons_zero, List.set_cons_succ]
  refine z_aloadn C.1 (pc := 840) (n := 2) 2 rfl rfl (fm_dec dtLa_13 25 rfl) ?_
  refine la_arg C (pc := 841) 1 (v := 1) rfl rfl (fm_inl (by decide)) (by decide) (by decide) (fm_dec dtLa_13 26 rfl) (fm_dec dtLa_13 27 rfl) (fm_dec dtLa_13 28 rfl) (fm_dec dtLa_13 29 rfl) (fm_dec dtLa_14 0 rfl) ?_
  refine la_arg C (pc := 847) 2 (v := 2) rfl rfl (fm_inl (by decide)) (by decide) (by decide) (fm_dec dtLa_14 1 rfl) (fm_dec dtLa_14 2 rfl) (fm_dec dtLa_14 3 rfl) (fm_dec dtLa_14 4 rfl) (fm_dec dtLa_14 5 rfl) ?_
  refine la_arg C (pc := 853) 3 (v := 3) rfl rfl (fm_inl (by decide)) (by decide) (by decide) (fm_dec dtLa_14 6 rfl) (fm_dec dtLa_14 7 rfl) (fm_dec dtLa_14 8 rfl) (fm_dec dtLa_14 9 rfl) (fm_dec dtLa_14 10 rfl) ?_
  refine la_arg C (pc := 859) 4 (v := 4) rfl rfl (fm_inl (by decide)) (by decide) (by decide) (fm_dec dtLa_14 11 rfl) (fm_dec dtLa_14 12 rfl) (fm_dec dtLa_14 13 rfl) (fm_dec dtLa_14 14 rfl) (fm_dec dtLa_14 15 rfl) ?_
  refine la_arg C (pc := 865) 5 (v := 5) rfl rfl (fm_inl (by decide)) (by decide) (by decide) (fm_dec dtLa_14 16 rfl) (fm_dec dtLa_14 17 rfl) (fm_dec dtLa_14 18 rfl) (fm_dec dtLa_14 19 rfl) (fm_dec dtLa_14 20 rfl) ?_
  refine z_perm (ws := fmL Tx (g, G.2) M1 ++ ((o, .inl (G.2.2.1 1, 1, .inr (.inl f1))) :: fmL Tm (g2, G.2) M2)) (wpermW _ _ _) ?_
  refine z_callX C.1 (T := Tm) (g := g2) (M := M2) (k := 0) (ci := 11) (d' := 4) (pc := 871) (As := [.int (xs 1), .int (xs 2), .int (xs 3), .int (xs 4), .int (xs 5)]) (st := []) cvL_173 (by decide) rfl rfl rfl (by decide) (rm_fr (by decide)) (rm_lo (by decide) (by decide)) (rm_c (k := 1001) (by decide)) (rm_s (k := 30006) (by decide)) (fm_dec dtLa_14 21 rfl) ?_
  refine m_would C.2.2.2.2.2 _ _ _ _ _ m1_0_17 (fun M3 ht hp => ?_) (fun r9 M3 ht hn => ?_)
  · refine z_then1 ?_
    refine z_istore C.1 (pc := 874) (i := 6) (by decide) rfl (fm_dec dtLa_14 22 rfl) ?_
    dsimp only [List.set_cons_zero, List.set_cons_succ]
    exact la_tailI C (pc := 876) (by decide) (by decide) (v := (if 0 < (if (xs 1) + (xs 1) < 64 then (xs 1) + (xs 1) else 64) then (if (xs 1) + (xs 1) < 64 then (xs 1) + (xs 1) else 64) else 0)) ((inR (xs 1) 0 200 ∧ inR (xs 2) 0 200 ∧ inR (xs 3) 1 99 ∧ inR (xs 4) 0 1 ∧ inR (xs 5) 0 24)) (show (1 : Int32) ≠ 0 by decide) hQ.1 hQ.2 (fun _ => ⟨ht, rfl⟩) (fun h => absurd hp h) (fm_dec dtLa_14 23 rfl) (fm_dec dtLa_14 24 rfl) (fm_dec dtLa_14 25 rfl) (fm_dec dtLa_14 26 rfl) (fm_dec dtLa_14 29 rfl) (fm_dec dtLa_15 0 rfl) (fm_dec dtLa_15 1 rfl) (fm_dec dtLa_15 2 rfl) (fm_dec dtLa_15 3 rfl) (fm_dec dtLa_15 4 rfl) (fm_dec dtLa_15 5 rfl) (fm_dec dtLa_15 6 rfl) (fm_dec dtLa_15 7 rfl) (by decide) (fm_dec dtLa_15 10 rfl)
  · refine z_then1 ?_
    refine z_istore C.1 (pc := 874) (i := 6) (by decide) rfl (fm_dec dtLa_14 22 rfl) ?_
    dsimp only [List.set_cons_zero, List.set_cons_succ]
    exact la_tailI C (pc := 876) (by decide) (by decide) (v := (if 0 < (if (xs 1) + (xs 1) < 64 then (xs 1) + (xs 1) else 64) then (if (xs 1) + (xs 1) < 64 then (xs 1) + (xs 1) else 64) else 0)) ((inR (xs 1) 0 200 ∧ inR (xs 2) 0 200 ∧ inR (xs 3) 1 99 ∧ inR (xs 4) 0 1 ∧ inR (xs 5) 0 24)) (show (1 : Int32) ≠ 0 by decide) hQ.1 hQ.2 (fun h => absurd h hn) (fun _ => ht) (fm_dec dtLa_14 23 rfl) (fm_dec dtLa_14 24 rfl) (fm_dec dtLa_14 25 rfl) (fm_dec dtLa_14 26 rfl) (fm_dec dtLa_14 29 rfl) (fm_dec dtLa_15 0 rfl) (fm_dec dtLa_15 1 rfl) (fm_dec dtLa_15 2 rfl) (fm_dec dtLa_15 3 rfl) (fm_dec dtLa_15 4 rfl) (fm_dec dtLa_15 5 rfl) (fm_dec dtLa_15 6 rfl) (fm_dec dtLa_15 7 rfl) (by decide) (fm_dec dtLa_15 10 rfl)
set_option maxRecDepth 20000 in
theorem la_c12 {p : Program} {l : Launch} {e : Env} {s : State} {m : MethodId} {below : List Frame} {meth : Method} {c : Code} {G : fmG} {b : Nat} {xs : Nat → Int32} (C : laC p l s m meth c G b 7 xs) {g g2 : Nat → Nat} {M M2 : fmM} {o : Nat} (hx : xFresh M) (hm : mAll M2) : zEv p l e room_1 s m #[.ref b] below meth c G (fun q => s.heap.size ≤ q) 8 (lw_Z below #[.ref b] s) 907 [some (.ref b), some (.ref (g 0)), some (.ref (g2 0)), some (.ref o), some (.int 0), none, none, none] [] (fmL Tx (g, G.2) M ++ ((o, .inl (G.2.2.1 1, 1, .inr (.inl fun _ => 0))) :: fmL Tm (g2, G.2) M2)) 1000 30000 := by
  obtain ⟨x1_3_9, x1_3_11, x1_0_13, x1_0_14, x1_0_15, x1_0_16, x1_1_1, x1_1_5, x1_34_5, x1_46_2, x1_47_1, x1_47_2, x1_47_3, x1_47_4, x1_47_5, x2_47_6, x1_27_0, x1_23_3, x1_24_0, x1_24_1, x1_24_2⟩ := hx
  obtain ⟨⟨⟨m1_4_0, m1_4_1, m1_4_2⟩, ⟨m1_7_0, m1_7_9, m1_7_10, m1_7_11, m1_7_12, m1_7_13⟩, ⟨m1_0_17, m1_0_31, m1_0_32, m1_0_33, m1_0_34⟩⟩, m1_0_1, m1_0_3, m1_2_0, m1_2_1⟩ := hm
  refine z_aloadn C.1 (pc := 907) (n := 1) 1 rfl rfl (fm_dec dtLa_15 11 rfl) ?_
  refine la_arg C (pc := 908) 1 (v := 1) rfl rfl (fm_inl (by decide)) (by decide) (by decide) (fm_dec dtLa_15 12 rfl) (fm_dec dtLa_15 13 rfl) (fm_dec dtLa_15 14 rfl) (fm_dec dtLa_15 15 rfl) (fm_dec dtLa_15 16 rfl) ?_
  refine z_aloadn C.1 (pc := 914) (n := 3) 3 rfl rfl (fm_dec dtLa_15 17 rfl) ?_
  refine z_callW C.1 (y' := qL_loss) (hh := [(0, 8, 11, 13)]) (W0 := WX G g o (fmL Tm (g2, G.2) M2) (M, fun _ => 0)) (WW := WX G g o (fmL Tm (g2, G.2) M2)) (Q := fun r u => (((inR (xs 1) 0 1)) → r = 0 ∧ u.2 0 = ((if (xs 1) = 0 then 0 else 1) : Int64)) ∧ (¬ ((inR (xs 1) 0 1)) → r = 1)) (As := [.ref (g 0), .int (xs 1), .ref o]) (st := []) (pc := 915) (fm_in 983 (by decide +kernel) rfl) nst_L_loss niL nw_L_loss nd_L_loss rfl rfl (by decide) (show 23 ≤ room_1.frames by decide) (show 8 + (4 + 11) + 920 ≤ room_1.locals by decide) (rm_c (k := 1000) (by decide)) (rm_s (k := 30000) (by decide)) (fm_dec dtLa_15 18 rfl) (w_loss (x_loss C.2.2.2.2.2 _ x2_47_6 (fun h0 => wJ_ok ⟨fun _ => ⟨rfl, rfl⟩, fun h => absurd (show (inR (xs 1) 0 1) from h0) h⟩) (fun M' hn => wJ_x (⟨rfl, ⟨fun h => absurd h hn, fun _ => rfl⟩⟩)))) (fun r u hQ => ?_)
  obtain ⟨M1, f1⟩ := u
  refine z_istore C.1 (pc := 918) (i := 5) (by decide) rfl (fm_dec dtLa_15 19 rfl) ?_
  dsimp only [List.set_cons_zero, List.set_cons_succ]
  refine z_aloadn C.1 (pc := 920) (n := 2) 2 rfl rfl (fm_dec dtLa_15 20 rfl) ?_
  refine la_arg C (pc := 921) 1 (v := 1) rfl rfl (fm_inl (by decide)) (by decide) (by decide) (fm_dec dtLa_15 21 rfl) (fm_dec dtLa_15 22 rfl) (fm_dec dtLa_15 23 rfl) (fm_dec dtLa_15 24 rfl) (fm_dec dtLa_15 25 rfl) ?_
  refine z_perm (ws := fmL Tx (g, G.2) M1 ++ ((o, .inl (G.2.2.1 1, 1, .inr (.inl f1))) :: fmL Tm (g2, G.2) M2)) (wpermW _ _ _) ?_
  refine z_callX C.1 (T := Tm) (g := g2) (M := M2) (k := 0) (ci := 11) (d' := 2) (pc := 927) (As := [.int (xs 1)]) (st := []) cvL_176 (by decide) rfl rfl rfl (by decide) (rm_fr (by decide)) (rm_lo (by decide) (by decide)) (rm_c (k := 1001) (by decide)) (rm_s (k := 30006) (by decide)) (fm_dec dtLa_15 26 rfl) ?_
  refine m_loss C.2.2.2.2.2 _ m1_7_13 (fun M3 ht hp => ?_) (fun r9 M3 ht hn => ?_)
  · refine z_then1 ?_
    refine z_lstore C.1 (pc := 930) (i := 6) (by decide) rfl (fm_dec dtLa_15 27 rfl) ?_
    dsimp only [List.set_cons_zero, List.set_cons_succ]
    exact la_tailJ C (pc := 932) (by decide) (by decide) (v := (if (xs 1) = 0 then 0 else 1)) ((inR (xs 1) 0 1)) (show (1 : Int32) ≠ 0 by decide) hQ.1 hQ.2 (fun _ => ⟨ht, rfl⟩) (fun h => absurd hp h) (fm_dec dtLa_15 28 rfl) (fm_dec dtLa_15 29 rfl) (fm_dec dtLa_16 0 rfl) (fm_dec dtLa_16 1 rfl) (fm_dec dtLa_16 4 rfl) (fm_dec dtLa_16 5 rfl) (fm_dec dtLa_16 6 rfl) (fm_dec dtLa_16 7 rfl) (fm_dec dtLa_16 8 rfl) (fm_dec dtLa_16 9 rfl) (fm_dec dtLa_16 10 rfl) (fm_dec dtLa_16 11 rfl) (by decide) (fm_dec dtLa_16 14 rfl)
  · refine z_then1 ?_
    refine z_lstore C.1 (pc := 930) (i := 6) (by decide) rfl (fm_dec dtLa_15 27 rfl) ?_
    dsimp only [List.set_cons_zero, List.set_cons_succ]
    exact la_tailJ C (pc := 932) (by decide) (by decide) (v := (if (xs 1) = 0 then 0 else 1)) ((inR (xs 1) 0 1)) (show (1 : Int32) ≠ 0 by decide) hQ.1 hQ.2 (fun h => absurd h hn) (fun _ => ht) (fm_dec dtLa_15 28 rfl) (fm_dec dtLa_15 29 rfl) (fm_dec dtLa_16 0 rfl) (fm_dec dtLa_16 1 rfl) (fm_dec dtLa_16 4 rfl) (fm_dec dtLa_16 5 rfl) (fm_dec dtLa_16 6 rfl) (fm_dec dtLa_16 7 rfl) (fm_dec dtLa_16 8 rfl) (fm_dec dtLa_16 9 rfl) (fm_dec dtLa_16 10 rfl) (fm_dec dtLa_16 11 rfl) (by decide) (fm_dec dtLa_16 14 rfl)
set_option maxRecDepth 20000 in
theorem la_c13 {p : Program} {l : Launch} {e : Env} {s : State} {m : MethodId} {below : List Frame} {meth : Method} {c : Code} {G : fmG} {b : Nat} {xs : Nat → Int32} (C : laC p l s m meth c G b 7 xs) {g g2 : Nat → Nat} {M M2 : fmM} {o : Nat} (hx : xFresh M) (hm : mAll M2) : zEv p l e room_1 s m #[.ref b] below meth c G (fun q => s.heap.size ≤ q) 8 (lw_Z below #[.ref b] s) 962 [some (.ref b), some (.ref (g 0)), some (.ref (g2 0)), some (.ref o), some (.int 0), none, none, none] [] (fmL Tx (g, G.2) M ++ ((o, .inl (G.2.2.1 1, 1, .inr (.inl fun _ => 0))) :: fmL Tm (g2, G.2) M2)) 1000 30000 := by
  obtain ⟨x1_3_9, x1_3_11, x1_0_13, x1_0_14, x1_0_15, x1_0_16, x1_1_1, x1_1_5, x1_34_5, x1_46_2, x1_47_1, x1_47_2, x1_47_3, x1_47_4, x1_47_5, x2_47_6, x1_27_0, x1_23_3, x1_24_0, x1_24_1, x1_24_2⟩ := hx
  obtain ⟨⟨⟨m1_4_0, m1_4_1, m1_4_2⟩, ⟨m1_7_0, m1_7_9, m1_7_10, m1_7_11, m1_7_12, m1_7_13⟩, ⟨m1_0_17, m1_0_31, m1_0_32, m1_0_33, m1_0_34⟩⟩, m1_0_1, m1_0_3, m1_2_0, m1_2_1⟩ := hm
  refine z_aloadn C.1 (pc := 962) (n := 1) 1 rfl rfl (fm_dec dtLa_16 15 rfl) ?_
  refine la_arg C (pc := 963) 1 (v := 1) rfl rfl (fm_inl (by decide)) (by decide) (by decide) (fm_dec dtLa_16 16 rfl) (fm_dec dtLa_16 17 rfl) (fm_dec dtLa_16 18 rfl) (fm_dec dtLa_16 19 rfl) (fm_dec dtLa_16 20 rfl) ?_
  refine la_arg C (pc := 969) 2 (v := 2) rfl rfl (fm_inl (by decide)) (by decide) (by decide) (fm_dec dtLa_16 21 rfl) (fm_dec dtLa_16 22 rfl) (fm_dec dtLa_16 23 rfl) (fm_dec dtLa_16 24 rfl) (fm_dec dtLa_16 25 rfl) ?_
  refine z_aloadn C.1 (pc := 975) (n := 3) 3 rfl rfl (fm_dec dtLa_16 26 rfl) ?_
  refine z_callW C.1 (y' := qL_cost) (hh := [(0, 9, 12, 31), (0, 9, 16, 13)]) (W0 := WX G g o (fmL Tm (g2, G.2) M2) (M, fun _ => 0)) (WW := WX G g o (fmL Tm (g2, G.2) M2)) (Q := fun r u => ((False) → r = 0 ∧ u.2 0 = (0 : Int64)) ∧ (¬ (False) → r = 1)) (As := [.ref (g 0), .int (xs 1), .int (xs 2), .ref o]) (st := []) (pc := 976) (fm_in 998 (by decide +kernel) rfl) nst_L_cost niL nw_L_cost nd_L_cost rfl rfl (by decide) (show 23 ≤ room_1.frames by decide) (show 8 + (5 + 11) + 920 ≤ room_1.locals by decide) (rm_c (k := 1000) (by decide)) (rm_s (k := 30000) (by decide)) (fm_dec dtLa_16 27 rfl) (w_cost (x_cost C.2.2.2.2.2 _ _ x1_3_9 (fun M' => wJ_x (Or.inl ⟨rfl, ⟨fun h => h.elim, fun _ => rfl⟩⟩)))) (fun r u hQ => ?_)
  obtain ⟨M1, f1⟩ := u
  refine z_istore C.1 (pc := 979) (i := 5) (by decide) rfl (fm_dec dtLa_16 28 rfl) ?_
  dsimp only [List.set_cons_zero, List.set_cons_succ]
  refine z_aloadn C.1 (pc := 981) (n := 2) 2 rfl rfl (fm_dec dtLa_16 29 rfl) ?_
  refine la_arg C (pc := 982) 1 (v := 1) rfl rfl (fm_inl (by decide)) (by decide) (by decide) (fm_dec dtLa_17 0 rfl) (fm_dec dtLa_17 1 rfl) (fm_dec dtLa_17 2 rfl) (fm_dec dtLa_17 3 rfl) (fm_dec dtLa_17 4 rfl) ?_
  refine la_arg C (pc := 988) 2 (v := 2) rfl rfl (fm_inl (by decide)) (by decide) (by decide) (fm_dec dtLa_17 5 rfl) (fm_dec dtLa_17 6 rfl) (fm_dec dtLa_17 7 rfl) (fm_dec dtLa_17 8 rfl) (fm_dec dtLa_17 9 rfl) ?_
  refine z_perm (ws := fmL Tx (g, G.2) M1 ++ ((o, .inl (G.2.2.1 1, 1, .inr (.inl f1))) :: fmL Tm (g2, G.2) M2)) (wpermW _ _ _) ?_
  refine z_callX C.1 (T := Tm) (g := g2) (M := M2) (k := 0) (ci := 11) (d' := 7) (pc := 994) (As := [.int (xs 1), .int (xs 2)]) (st := []) cvL_179 (by decide) rfl rfl rfl (by decide) (rm_fr (by decide)) (rm_lo (by decide) (by decide)) (rm_c (k := 1001) (by decide)) (rm_s (k := 30006) (by decide)) (fm_dec dtLa_17 10 rfl) ?_
  refine m_cost C.2.2.2.2.2 _ _ m1_4_0 (fun r9 M3 ht => ?_)
  refine z_then1 ?_
  refine z_lstore C.1 (pc := 997) (i := 6) (by decide) rfl (fm_dec dtLa_17 11 rfl) ?_
  dsimp only [List.set_cons_zero, List.set_cons_succ]
  exact la_tailJ C (pc := 999) (by decide) (by decide) (v := 0) (False) (show (1 : Int32) ≠ 0 by decide) hQ.1 hQ.2 (fun h => h.elim) (fun _ => ht) (fm_dec dtLa_17 12 rfl) (fm_dec dtLa_17 13 rfl) (fm_dec dtLa_17 14 rfl) (fm_dec dtLa_17 15 rfl) (fm_dec dtLa_17 18 rfl) (fm_dec dtLa_17 19 rfl) (fm_dec dtLa_17 20 rfl) (fm_dec dtLa_17 21 rfl) (fm_dec dtLa_17 22 rfl) (fm_dec dtLa_17 23 rfl) (fm_dec dtLa_17 24 rfl) (fm_dec dtLa_17 25 rfl) (by decide) (fm_dec dtLa_17 28 rfl)
set_option maxRecDepth 20000 in
theorem la_c14 {p : Program} {l : Launch} {e : Env} {s : State} {m : MethodId} {below : List Frame} {meth : Method} {c : Code} {G : fmG} {b : Nat} {xs : Nat → Int32} (C : laC p l s m meth c G b 7 xs) {g g2 : Nat → Nat} {M M2 : fmM} {o : Nat} (hx : xFresh M) (hm : mAll M2) : zEv p l e room_1 s m #[.ref b] below meth c G (fun q => s.heap.size ≤ q) 8 (lw_Z below #[.ref b] s) 1029 [some (.ref b), some (.ref (g 0)), some (.ref (g2 0)), some (.ref o), some (.int 0), none, none, none] [] (fmL Tx (g, G.2) M ++ ((o, .inl (G.2.2.1 1, 1, .inr (.inl fun _ => 0))) :: fmL Tm (g2, G.2) M2)) 1000 30000 := by
  obtain ⟨x1_3_9, x1_3_11, x1_0_13, x1_0_14, x1_0_15, x1_0_16, x1_1_1, x1_1_5, x1_34_5, x1_46_2, x1_47_1, x1_47_2, x1_47_3, x1_47_4, x1_47_5, x2_47_6, x1_27_0, x1_23_3, x1_24_0, x1_24_1, x1_24_2⟩ := hx
  obtain ⟨⟨⟨m1_4_0, m1_4_1, m1_4_2⟩, ⟨m1_7_0, m1_7_9, m1_7_10, m1_7_11, m1_7_12, m1_7_13⟩, ⟨m1_0_17, m1_0_31, m1_0_32, m1_0_33, m1_0_34⟩⟩, m1_0_1, m1_0_3, m1_2_0, m1_2_1⟩ := hm
  refine z_aloadn C.1 (pc := 1029) (n := 1) 1 rfl rfl (fm_dec dtLa_17 29 rfl) ?_
  refine la_arg C (pc := 1030) 1 (v := 1) rfl rfl (fm_inl (by decide)) (by decide) (by decide) (fm_dec dtLa_18 0 rfl) (fm_dec dtLa_18 1 rfl) (fm_dec dtLa_18 2 rfl) (fm_dec dtLa_18 3 rfl) (fm_dec dtLa_18 4 rfl) ?_
  refine z_aloadn C.1 (pc := 1036) (n := 3) 3 rfl rfl (fm_dec dtLa_18 5 rfl) ?_
  refine z_callW C.1 (y' := qL_risk) (hh := [(0, 8, 11, 13)]) (W0 := WX G g o (fmL Tm (g2, G.2) M2) (M, fun _ => 0)) (WW := WX G g o (fmL Tm (g2, G.2) M2)) (Q := fun r u => (((inR (xs 1) 0 1)) → r = 0 ∧ u.2 0 = ((if (xs 1) = 0 then 0 else 1) : Int64)) ∧ (¬ ((inR (xs 1) 0 1)) → r = 1)) (As := [.ref (g 0), .int (xs 1), .ref o]) (st := []) (pc := 1037) (fm_in 1006 (by decide +kernel) rfl) nst_L_risk niL nw_L_risk nd_L_risk rfl rfl (by decide) (show 23 ≤ room_1.frames by decide) (show 8 + (4 + 11) + 920 ≤ room_1.locals by decide) (rm_c (k := 1000) (by decide)) (rm_s (k := 30000) (by decide)) (fm_dec dtLa_18 6 rfl) (w_risk (x_risk C.2.2.2.2.2 _ x1_3_9 (fun h0 => wJ_ok ⟨fun _ => ⟨rfl, rfl⟩, fun h => absurd (show (inR (xs 1) 0 1) from h0) h⟩) (fun M' hn => wJ_x (⟨rfl, ⟨fun h => absurd h hn, fun _ => rfl⟩⟩)))) (fun r u hQ => ?_)
  obtain ⟨M1, f1⟩ := u
  refine z_istore C.1 (pc := 1040) (i := 5) (by decide) rfl (fm_dec dtLa_18 7 rfl) ?_
  dsimp only [List.set_cons_zero, List.set_cons_succ]
  refine z_aloadn C.1 (pc := 1042) (n := 2) 2 rfl rfl (fm_dec dtLa_18 8 rfl) ?_
  refine la_arg C (pc := 1043) 1 (v := 1) rfl rfl (fm_inl (by decide)) (by decide) (by decide) (fm_dec dtLa_18 9 rfl) (fm_dec dtLa_18 10 rfl) (fm_dec dtLa_18 11 rfl) (fm_dec dtLa_18 12 rfl) (fm_dec dtLa_18 13 rfl) ?_
  refine z_perm (ws := fmL Tx (g, G.2) M1 ++ ((o, .inl (G.2.2.1 1, 1, .inr (.inl f1))) :: fmL Tm (g2, G.2) M2)) (wpermW _ _ _) ?_
  refine z_callX C.1 (T := Tm) (g := g2) (M := M2) (k := 0) (ci := 11) (d' := 8) (pc := 1049) (As := [.int (xs 1)]) (st := []) cvL_182 (by decide) rfl rfl rfl (by decide) (rm_fr (by decide)) (rm_lo (by decide) (by decide)) (rm_c (k := 1001) (by decide)) (rm_s (k := 30006) (by decide)) (fm_dec dtLa_18 14 rfl) ?_
  refine m_risk C.2.2.2.2.2 _ m1_4_0 (fun M3 ht hp => ?_) (fun r9 M3 ht hn => ?_)
  · refine z_then1 ?_
    refine z_lstore C.1 (pc := 1052) (i := 6) (by decide) rfl (fm_dec dtLa_18 15 rfl) ?_
    dsimp only [List.set_cons_zero, List.set_cons_succ]
    exact la_tailJ C (pc := 1054) (by decide) (by decide) (v := (if (xs 1) = 0 then 0 else 1)) ((inR (xs 1) 0 1)) (show (1 : Int32) ≠ 0 by decide) hQ.1 hQ.2 (fun _ => ⟨ht, rfl⟩) (fun h => absurd hp h) (fm_dec dtLa_18 16 rfl) (fm_dec dtLa_18 17 rfl) (fm_dec dtLa_18 18 rfl) (fm_dec dtLa_18 19 rfl) (fm_dec dtLa_18 22 rfl) (fm_dec dtLa_18 23 rfl) (fm_dec dtLa_18 24 rfl) (fm_dec dtLa_18 25 rfl) (fm_dec dtLa_18 26 rfl) (fm_dec dtLa_18 27 rfl) (fm_dec dtLa_18 28 rfl) (fm_dec dtLa_18 29 rfl) (by decide) (fm_dec dtLa_19 2 rfl)
  · refine z_then1 ?_
    refine z_lstore C.1 (pc := 1052) (i := 6) (by decide) rfl (fm_dec dtLa_18 15 rfl) ?_
    dsimp only [List.set_cons_zero, List.set_cons_succ]
    exact la_tailJ C (pc := 1054) (by decide) (by decide) (v := (if (xs 1) = 0 then 0 else 1)) ((inR (xs 1) 0 1)) (show (1 : Int32) ≠ 0 by decide) hQ.1 hQ.2 (fun h => absurd h hn) (fun _ => ht) (fm_dec dtLa_18 16 rfl) (fm_dec dtLa_18 17 rfl) (fm_dec dtLa_18 18 rfl) (fm_dec dtLa_18 19 rfl) (fm_dec dtLa_18 22 rfl) (fm_dec dtLa_18 23 rfl) (fm_dec dtLa_18 24 rfl) (fm_dec dtLa_18 25 rfl) (fm_dec dtLa_18 26 rfl) (fm_dec dtLa_18 27 rfl) (fm_dec dtLa_18 28 rfl) (fm_dec dtLa_18 29 rfl) (by decide) (fm_dec dtLa_19 2 rfl)
set_option maxRecDepth 20000 in
theorem la_c15 {p : Program} {l : Launch} {e : Env} {s : State} {m : MethodId} {below : List Frame} {meth : Method} {c : Code} {G : fmG} {b : Nat} {xs : Nat → Int32} (C : laC p l s m meth c G b 7 xs) {g g2 : Nat → Nat} {M M2 : fmM} {o : Nat} (hx : xFresh M) (hm : mAll M2) : zEv p l e room_1 s m #[.ref b] below meth c G (fun q => s.heap.size ≤ q) 8 (lw_Z below #[.ref b] s) 1084 [some (.ref b), some (.ref (g 0)), some (.ref (g2 0)), some (.ref o), some (.int 0), none, none, none] [] (fmL Tx (g, G.2) M ++ ((o, .inl (G.2.2.1 1, 1, .inr (.inl fun _ => 0))) :: fmL Tm (g2, G.2) M2)) 1000 30000 := by
  obtain ⟨x1_3_9, x1_3_11, x1_0_13, x1_0_14, x1_0_15, x1_0_16, x1_1_1, x1_1_5, x1_34_5, x1_46_2, x1_47_1, x1_47_2, x1_47_3, x1_47_4, x1_47_5, x2_47_6, x1_27_0, x1_23_3, x1_24_0, x1_24_1, x1_24_2⟩ := hx
  obtain ⟨⟨⟨m1_4_0, m1_4_1, m1_4_2⟩, ⟨m1_7_0, m1_7_9, m1_7_10, m1_7_11, m1_7_12, m1_7_13⟩, ⟨m1_0_17, m1_0_31, m1_0_32, m1_0_33, m1_0_34⟩⟩, m1_0_1, m1_0_3, m1_2_0, m1_2_1⟩ := hm
  refine z_aloadn C.1 (pc := 1084) (n := 1) 1 rfl rfl (fm_dec dtLa_19 3 rfl) ?_
  refine la_arg C (pc := 1085) 1 (v := 1) rfl rfl (fm_inl (by decide)) (by decide) (by decide) (fm_dec dtLa_19 4 rfl) (fm_dec dtLa_19 5 rfl) (fm_dec dtLa_19 6 rfl) (fm_dec dtLa_19 7 rfl) (fm_dec dtLa_19 8 rfl) ?_
  refine la_arg C (pc := 1091) 2 (v := 2) rfl rfl (fm_inl (by decide)) (by decide) (by decide) (fm_dec dtLa_19 9 rfl) (fm_dec dtLa_19 10 rfl) (fm_dec dtLa_19 11 rfl) (fm_dec dtLa_19 12 rfl) (fm_dec dtLa_19 13 rfl) ?_
  refine z_aloadn C.1 (pc := 1097) (n := 3) 3 rfl rfl (fm_dec dtLa_19 14 rfl) ?_
  refine z_callW C.1 (y' := qL_saves) (hh := [(0, 9, 12, 31), (0, 9, 16, 13)]) (W0 := WX G g o (fmL Tm (g2, G.2) M2) (M, fun _ => 0)) (WW := WX G g o (fmL Tm (g2, G.2) M2)) (Q := fun r u => ((False) → r = 0 ∧ u.2 0 = (0 : Int64)) ∧ (¬ (False) → r = 1)) (As := [.ref (g 0), .int (xs 1), .int (xs 2), .ref o]) (st := []) (pc := 1098) (fm_in 1014 (by decide +kernel) rfl) nst_L_saves niL nw_L_saves nd_L_saves rfl rfl (by decide) (show 23 ≤ room_1.frames by decide) (show 8 + (5 + 11) + 920 ≤ room_1.locals by decide) (rm_c (k := 1000) (by decide)) (rm_s (k := 30000) (by decide)) (fm_dec dtLa_19 15 rfl) (w_saves (x_saves C.2.2.2.2.2 _ _ x1_3_9 (fun M' => wJ_x (Or.inl ⟨rfl, ⟨fun h => h.elim, fun _ => rfl⟩⟩)))) (fun r u hQ => ?_)
  obtain ⟨M1, f1⟩ := u
  refine z_istore C.1 (pc := 1101) (i := 5) (by decide) rfl (fm_dec dtLa_19 16 rfl) ?_
  dsimp only [List.set_cons_zero, List.set_cons_succ]
  refine z_aloadn C.1 (pc := 1103) (n := 2) 2 rfl rfl (fm_dec dtLa_19 17 rfl) ?_
  refine la_arg C (pc := 1104) 1 (v := 1) rfl rfl (fm_inl (by decide)) (by decide) (by decide) (fm_dec dtLa_19 18 rfl) (fm_dec dtLa_19 19 rfl) (fm_dec dtLa_19 20 rfl) (fm_dec dtLa_19 21 rfl) (fm_dec dtLa_19 22 rfl) ?_
  refine la_arg C (pc := 1110) 2 (v := 2) rfl rfl (fm_inl (by decide)) (by decide) (by decide) (fm_dec dtLa_19 23 rfl) (fm_dec dtLa_19 24 rfl) (fm_dec dtLa_19 25 rfl) (fm_dec dtLa_19 26 rfl) (fm_dec dtLa_19 27 rfl) ?_
  refine z_perm (ws := fmL Tx (g, G.2) M1 ++ ((o, .inl (G.2.2.1 1, 1, .inr (.inl f1))) :: fmL Tm (g2, G.2) M2)) (wpermW _ _ _) ?_
  refine z_callX C.1 (T := Tm) (g := g2) (M := M2) (k := 0) (ci := 11) (d' := 8) (pc := 1116) (As := [.int (xs 1), .int (xs 2)]) (st := []) cvL_185 (by decide) rfl rfl rfl (by decide) (rm_fr (by decide)) (rm_lo (by decide) (by decide)) (rm_c (k := 1001) (by decide)) (rm_s (k := 30006) (by decide)) (fm_dec dtLa_19 28 rfl) ?_
  refine m_saves C.2.2.2.2.2 _ _ m1_4_0 (fun r9 M3 ht => ?_)
  refine z_then1 ?_
  refine z_lstore C.1 (pc := 1119) (i := 6) (by decide) rfl (fm_dec dtLa_19 29 rfl) ?_
  dsimp only [List.set_cons_zero, List.set_cons_succ]
  exact la_tailJ C (pc := 1121) (by decide) (by decide) (v := 0) (False) (show (1 : Int32) ≠ 0 by decide) hQ.1 hQ.2 (fun h => h.elim) (fun _ => ht) (fm_dec dtLa_20 0 rfl) (fm_dec dtLa_20 1 rfl) (fm_dec dtLa_20 2 rfl) (fm_dec dtLa_20 3 rfl) (fm_dec dtLa_20 6 rfl) (fm_dec dtLa_20 7 rfl) (fm_dec dtLa_20 8 rfl) (fm_dec dtLa_20 9 rfl) (fm_dec dtLa_20 10 rfl) (fm_dec dtLa_20 11 rfl) (fm_dec dtLa_20 12 rfl) (fm_dec dtLa_20 13 rfl) (by decide) (fm_dec dtLa_20 16 rfl)
