set_option maxRecDepth 20000 in
theorem la_c32 {p : Program} {l : Launch} {e : Env} {s : State} {m : MethodId} {below : List Frame} {meth : Method} {c : Code} {G : fmG} {b n : Nat} {xs : Nat → Int32} {I : fmM → fmM → Prop} (hS : laS_whose I) (C : laC p l s m meth c G b n xs) {g g2 : Nat → Nat} {M M2 : fmM} {f : Nat → Int64} {o t : Nat} {i : Int32} {cu su : Nat} (hi : laI n i t) (hcu : cu + 1 ≤ 601024) (hsu : su + 6 ≤ 7293034) (hcu1 : cu + 1 + 1 ≤ 601024) (hsu1 : su + 6 + 6 ≤ 7293034) (hI : I M M2) (kk : ∀ (M' : fmM) (f' : Nat → Int64) (M2' : fmM), I M' M2' → zEv p l e room_1 s m #[.ref b] below meth c G (fun q => s.heap.size ≤ q) 8 (lw_Z below #[.ref b] s) 1967 [some (.ref b), some (.ref (g 0)), some (.ref (g2 0)), some (.ref o), some (.int i), none, none, none] [] (fmL Tx (g, G.2) M' ++ ((o, .inl (G.2.2.1 1, 1, .inr (.inl f'))) :: fmL Tm (g2, G.2) M2')) (cu + 1) (su + 6)) : zEv p l e room_1 s m #[.ref b] below meth c G (fun q => s.heap.size ≤ q) 8 (lw_Z below #[.ref b] s) 1472 [some (.ref b), some (.ref (g 0)), some (.ref (g2 0)), some (.ref o), some (.int i), none, none, none] [] (fmL Tx (g, G.2) M ++ ((o, .inl (G.2.2.1 1, 1, .inr (.inl f))) :: fmL Tm (g2, G.2) M2)) cu su := by
  have h0 := hS M M2 hI
  refine z_aloadn C.1 (pc := 1472) (n := 1) 1 rfl rfl (fm_dec dtLa_29 10 rfl) ?_
  refine z_callX C.1 (T := Tx) (g := g) (M := M) (rest := (o, .inl (G.2.2.1 1, 1, .inr (.inl f))) :: fmL Tm (g2, G.2) M2) (k := 0) (ci := 10) (d' := 250) (pc := 1473) (As := []) (st := []) cvL_241 (by decide) rfl rfl rfl (by decide) (rm_fr (by decide)) (rm_lo (by decide) (by decide)) (rm_c hcu) (rm_s hsu) (fm_dec dtLa_29 11 rfl) ?_
  refine fmGood.imp (pvGood.fm C.2.2.2.2.2 (by decide) (by decide +kernel) h0) (fun o9 M1 h9 => ?_)
  obtain ⟨o', rfl, h8, h2⟩ := h9
  rcases h8 with ⟨v, rfl⟩ | ⟨h8, -⟩ | ⟨h8, -⟩
  · refine z_then1 ?_
    refine z_pop C.1 (pc := 1476) rfl (fm_dec dtLa_29 12 rfl) ?_
    refine z_aloadn C.1 (pc := 1477) (n := 2) 2 rfl rfl (fm_dec dtLa_29 13 rfl) ?_
    have hcw := hcu
    have hsw := hsu
    refine z_perm (ws := (fmL Tx (g, G.2) M1 ++ ((o, .inl (G.2.2.1 1, 1, .inr (.inl f))) :: fmL Tm (g2, G.2) M2))) (wpermW _ _ _) ?_
    refine la_ref C (pc := 1478) (As := []) (st := []) cvL_244 (by decide +kernel) rfl rfl (Nat.le_of_ble_eq_true rfl) (by decide) hcw hsw (fm_dec dtLa_29 14 rfl) rfl h2 (fun r2 M3 h3 => ?_)
    obtain ⟨⟨v2, rfl⟩, hI3⟩ := h3
    refine z_then1 ?_
    refine z_pop C.1 (pc := 1481) rfl (fm_dec dtLa_29 15 rfl) ?_
    refine z_goto C.1 (pc := 1482) 1967 (by decide) (fm_dec dtLa_29 16 rfl) ?_
    refine z_more (Nat.le_succ _) (Nat.le_add_right _ 6) ?_
    exact z_perm (wpermB _ _ _) (la_fgt (kk M1 f M3 hI3))
  · cases h8
  · cases h8
set_option maxRecDepth 20000 in
theorem la_c33 {p : Program} {l : Launch} {e : Env} {s : State} {m : MethodId} {below : List Frame} {meth : Method} {c : Code} {G : fmG} {b n : Nat} {xs : Nat → Int32} {I : fmM → fmM → Prop} (hS : laS_ahead I) (C : laC p l s m meth c G b n xs) {g g2 : Nat → Nat} {M M2 : fmM} {f : Nat → Int64} {o t : Nat} {i : Int32} {cu su : Nat} (hi : laI n i t) (hcu : cu + 1 ≤ 601024) (hsu : su + 6 ≤ 7293034) (hcu1 : cu + 1 + 1 ≤ 601024) (hsu1 : su + 6 + 6 ≤ 7293034) (hI : I M M2) (kk : ∀ (M' : fmM) (f' : Nat → Int64) (M2' : fmM), I M' M2' → zEv p l e room_1 s m #[.ref b] below meth c G (fun q => s.heap.size ≤ q) 8 (lw_Z below #[.ref b] s) 1967 [some (.ref b), some (.ref (g 0)), some (.ref (g2 0)), some (.ref o), some (.int i), none, none, none] [] (fmL Tx (g, G.2) M' ++ ((o, .inl (G.2.2.1 1, 1, .inr (.inl f'))) :: fmL Tm (g2, G.2) M2')) (cu + 1) (su + 6)) : zEv p l e room_1 s m #[.ref b] below meth c G (fun q => s.heap.size ≤ q) 8 (lw_Z below #[.ref b] s) 1485 [some (.ref b), some (.ref (g 0)), some (.ref (g2 0)), some (.ref o), some (.int i), none, none, none] [] (fmL Tx (g, G.2) M ++ ((o, .inl (G.2.2.1 1, 1, .inr (.inl f))) :: fmL Tm (g2, G.2) M2)) cu su := by
  have h0 := hS M M2 (xs (t + 1)) (xs (t + 2)) hI
  refine z_aloadn C.1 (pc := 1485) (n := 1) 1 rfl rfl (fm_dec dtLa_29 17 rfl) ?_
  refine la_arg C (pc := 1486) (v := 1) (t + 1) rfl rfl (hi 1 (by decide)) (by decide) (fm_dec dtLa_29 18 rfl) (fm_dec dtLa_29 19 rfl) (fm_dec dtLa_29 20 rfl) (fm_dec dtLa_29 21 rfl) (fm_dec dtLa_29 22 rfl) ?_
  refine la_arg C (pc := 1492) (v := 2) (t + 2) rfl rfl (hi 2 (by decide)) (by decide) (fm_dec dtLa_29 23 rfl) (fm_dec dtLa_29 24 rfl) (fm_dec dtLa_29 25 rfl) (fm_dec dtLa_29 26 rfl) (fm_dec dtLa_29 27 rfl) ?_
  refine z_aloadn C.1 (pc := 1498) (n := 3) 3 rfl rfl (fm_dec dtLa_29 28 rfl) ?_
  have hw : pvGood Tx 250 qX10_ahead [.ref 0, .int (xs (t + 1)), .int (xs (t + 2))] M (wJ f (fun (r : Int32) (u : fmM × (Nat → Int64)) => pvGood Tm 250 qX11_ahead [.ref 0, .int (xs (t + 1)), .int (xs (t + 2))] M2 (fun r2 M2' => tJ r2 ∧ I u.1 M2')) (fun E M' => (E = fmIAE ∧ (fun (r : Int32) (u : fmM × (Nat → Int64)) => pvGood Tm 250 qX11_ahead [.ref 0, .int (xs (t + 1)), .int (xs (t + 2))] M2 (fun r2 M2' => tJ r2 ∧ I u.1 M2')) 1 (M', f)))) := h0.imp (fun r9 M9 h9 => by
    obtain ⟨h8, h2⟩ := h9
    rcases h8 with ⟨v, rfl⟩ | ⟨h6, rfl⟩ | ⟨h6, rfl⟩
    · exact h2
    · exact ⟨rfl, h2⟩
    · exact absurd h6 (by decide))
  refine z_callW C.1 (y' := qL_ahead) (hh := [(0, 9, 12, 13)]) (W0 := WX G g o (fmL Tm (g2, G.2) M2) (M, f)) (WW := WX G g o (fmL Tm (g2, G.2) M2)) (Q := fun (r : Int32) (u : fmM × (Nat → Int64)) => pvGood Tm 250 qX11_ahead [.ref 0, .int (xs (t + 1)), .int (xs (t + 2))] M2 (fun r2 M2' => tJ r2 ∧ I u.1 M2')) (As := [.ref (g 0), .int (xs (t + 1)), .int (xs (t + 2)), .ref o]) (st := []) (pc := 1499) (fm_in 1204 (by decide +kernel) rfl) nst_L_ahead niL nw_L_ahead nd_L_ahead rfl rfl (by decide) (show 311 ≤ room_1.frames by decide) (show 8 + (5 + 11) + 18200 ≤ room_1.locals by decide) (rm_c hcu) (rm_s hsu) (fm_dec dtLa_29 29 rfl) (w_ahead C.2.2.2.2.2 hw) (fun r u hQ => ?_)
  obtain ⟨M1, f1⟩ := u
  refine z_istore C.1 (pc := 1502) (i := 5) (by decide) rfl (fm_dec dtLa_30 0 rfl) ?_
  dsimp only [List.set_cons_zero, List.set_cons_succ]
  refine z_aloadn C.1 (pc := 1504) (n := 2) 2 rfl rfl (fm_dec dtLa_30 1 rfl) ?_
  refine la_arg C (pc := 1505) (v := 1) (t + 1) rfl rfl (hi 1 (by decide)) (by decide) (fm_dec dtLa_30 2 rfl) (fm_dec dtLa_30 3 rfl) (fm_dec dtLa_30 4 rfl) (fm_dec dtLa_30 5 rfl) (fm_dec dtLa_30 6 rfl) ?_
  refine la_arg C (pc := 1511) (v := 2) (t + 2) rfl rfl (hi 2 (by decide)) (by decide) (fm_dec dtLa_30 7 rfl) (fm_dec dtLa_30 8 rfl) (fm_dec dtLa_30 9 rfl) (fm_dec dtLa_30 10 rfl) (fm_dec dtLa_30 11 rfl) ?_
  have hcw := hcu1
  have hsw := hsu1
  refine z_perm (ws := (fmL Tx (g, G.2) M1 ++ ((o, .inl (G.2.2.1 1, 1, .inr (.inl f1))) :: fmL Tm (g2, G.2) M2))) (wpermW _ _ _) ?_
  refine la_ref C (pc := 1517) (As := [.int (xs (t + 1)), .int (xs (t + 2))]) (st := []) cvL_247 (by decide +kernel) rfl rfl (Nat.le_of_ble_eq_true rfl) (by decide) hcw hsw (fm_dec dtLa_30 12 rfl) rfl hQ (fun r2 M3 h3 => ?_)
  obtain ⟨⟨v2, rfl⟩, hI3⟩ := h3
  refine z_then1 ?_
  refine z_lstore C.1 (pc := 1520) (i := 6) (by decide) rfl (fm_dec dtLa_30 13 rfl) ?_
  dsimp only [List.set_cons_zero, List.set_cons_succ]
  refine z_goto C.1 (pc := 1522) 1967 (by decide) (fm_dec dtLa_30 14 rfl) ?_
  exact z_perm (wpermB _ _ _) (la_fgt (kk M1 f1 M3 hI3))
set_option maxRecDepth 20000 in
theorem la_c34 {p : Program} {l : Launch} {e : Env} {s : State} {m : MethodId} {below : List Frame} {meth : Method} {c : Code} {G : fmG} {b n : Nat} {xs : Nat → Int32} {I : fmM → fmM → Prop} (hS : laS_lives I) (C : laC p l s m meth c G b n xs) {g g2 : Nat → Nat} {M M2 : fmM} {f : Nat → Int64} {o t : Nat} {i : Int32} {cu su : Nat} (hi : laI n i t) (hcu : cu + 1 ≤ 601024) (hsu : su + 6 ≤ 7293034) (hcu1 : cu + 1 + 1 ≤ 601024) (hsu1 : su + 6 + 6 ≤ 7293034) (hI : I M M2) (kk : ∀ (M' : fmM) (f' : Nat → Int64) (M2' : fmM), I M' M2' → zEv p l e room_1 s m #[.ref b] below meth c G (fun q => s.heap.size ≤ q) 8 (lw_Z below #[.ref b] s) 1967 [some (.ref b), some (.ref (g 0)), some (.ref (g2 0)), some (.ref o), some (.int i), none, none, none] [] (fmL Tx (g, G.2) M' ++ ((o, .inl (G.2.2.1 1, 1, .inr (.inl f'))) :: fmL Tm (g2, G.2) M2')) (cu + 1) (su + 6)) : zEv p l e room_1 s m #[.ref b] below meth c G (fun q => s.heap.size ≤ q) 8 (lw_Z below #[.ref b] s) 1525 [some (.ref b), some (.ref (g 0)), some (.ref (g2 0)), some (.ref o), some (.int i), none, none, none] [] (fmL Tx (g, G.2) M ++ ((o, .inl (G.2.2.1 1, 1, .inr (.inl f))) :: fmL Tm (g2, G.2) M2)) cu su := by
  have h0 := hS M M2 (xs (t + 1)) (xs (t + 2)) (xs (t + 3)) hI
  refine z_aloadn C.1 (pc := 1525) (n := 1) 1 rfl rfl (fm_dec dtLa_30 15 rfl) ?_
  refine la_arg C (pc := 1526) (v := 1) (t + 1) rfl rfl (hi 1 (by decide)) (by decide) (fm_dec dtLa_30 16 rfl) (fm_dec dtLa_30 17 rfl) (fm_dec dtLa_30 18 rfl) (fm_dec dtLa_30 19 rfl) (fm_dec dtLa_30 20 rfl) ?_
  refine la_arg C (pc := 1532) (v := 2) (t + 2) rfl rfl (hi 2 (by decide)) (by decide) (fm_dec dtLa_30 21 rfl) (fm_dec dtLa_30 22 rfl) (fm_dec dtLa_30 23 rfl) (fm_dec dtLa_30 24 rfl) (fm_dec dtLa_30 25 rfl) ?_
  refine la_arg C (pc := 1538) (v := 3) (t + 3) rfl rfl (hi 3 (by decide)) (by decide) (fm_dec dtLa_30 26 rfl) (fm_dec dtLa_30 27 rfl) (fm_dec dtLa_30 28 rfl) (fm_dec dtLa_30 29 rfl) (fm_dec dtLa_31 0 rfl) ?_
  refine z_aloadn C.1 (pc := 1544) (n := 3) 3 rfl rfl (fm_dec dtLa_31 1 rfl) ?_
  have hw : pvGood Tx 250 qX10_lives [.ref 0, .int (xs (t + 1)), .int (xs (t + 2)), .int (xs (t + 3))] M (wJ f (fun (r : Int32) (u : fmM × (Nat → Int64)) => pvGood Tm 250 qX11_lives [.ref 0, .int (xs (t + 1)), .int (xs (t + 2)), .int (xs (t + 3))] M2 (fun r2 M2' => tJ r2 ∧ I u.1 M2')) (fun E M' => (E = fmNSE ∧ (fun (r : Int32) (u : fmM × (Nat → Int64)) => pvGood Tm 250 qX11_lives [.ref 0, .int (xs (t + 1)), .int (xs (t + 2)), .int (xs (t + 3))] M2 (fun r2 M2' => tJ r2 ∧ I u.1 M2')) 1 (M', f)) ∨ (E = fmIAE ∧ (fun (r : Int32) (u : fmM × (Nat → Int64)) => pvGood Tm 250 qX11_lives [.ref 0, .int (xs (t + 1)), .int (xs (t + 2)), .int (xs (t + 3))] M2 (fun r2 M2' => tJ r2 ∧ I u.1 M2')) 2 (M', f)))) := h0.imp (fun r9 M9 h9 => by
    obtain ⟨h8, h2⟩ := h9
    rcases h8 with ⟨v, rfl⟩ | ⟨-, rfl⟩ | ⟨-, rfl⟩
    · exact h2
    · exact Or.inr ⟨rfl, h2⟩
    · exact Or.inl ⟨rfl, h2⟩)
  refine z_callW C.1 (y' := qL_lives) (hh := [(0, 11, 14, 31), (0, 11, 18, 13)]) (W0 := WX G g o (fmL Tm (g2, G.2) M2) (M, f)) (WW := WX G g o (fmL Tm (g2, G.2) M2)) (Q := fun (r : Int32) (u : fmM × (Nat → Int64)) => pvGood Tm 250 qX11_lives [.ref 0, .int (xs (t + 1)), .int (xs (t + 2)), .int (xs (t + 3))] M2 (fun r2 M2' => tJ r2 ∧ I u.1 M2')) (As := [.ref (g 0), .int (xs (t + 1)), .int (xs (t + 2)), .int (xs (t + 3)), .ref o]) (st := []) (pc := 1545) (fm_in 1211 (by decide +kernel) rfl) nst_L_lives niL nw_L_lives nd_L_lives rfl rfl (by decide) (show 311 ≤ room_1.frames by decide) (show 8 + (6 + 11) + 18200 ≤ room_1.locals by decide) (rm_c hcu) (rm_s hsu) (fm_dec dtLa_31 2 rfl) (w_lives C.2.2.2.2.2 hw) (fun r u hQ => ?_)
  obtain ⟨M1, f1⟩ := u
  refine z_istore C.1 (pc := 1548) (i := 5) (by decide) rfl (fm_dec dtLa_31 3 rfl) ?_
  dsimp only [List.set_cons_zero, List.set_cons_succ]
  refine z_aloadn C.1 (pc := 1550) (n := 2) 2 rfl rfl (fm_dec dtLa_31 4 rfl) ?_
  refine la_arg C (pc := 1551) (v := 1) (t + 1) rfl rfl (hi 1 (by decide)) (by decide) (fm_dec dtLa_31 5 rfl) (fm_dec dtLa_31 6 rfl) (fm_dec dtLa_31 7 rfl) (fm_dec dtLa_31 8 rfl) (fm_dec dtLa_31 9 rfl) ?_
  refine la_arg C (pc := 1557) (v := 2) (t + 2) rfl rfl (hi 2 (by decide)) (by decide) (fm_dec dtLa_31 10 rfl) (fm_dec dtLa_31 11 rfl) (fm_dec dtLa_31 12 rfl) (fm_dec dtLa_31 13 rfl) (fm_dec dtLa_31 14 rfl) ?_
  refine la_arg C (pc := 1563) (v := 3) (t + 3) rfl rfl (hi 3 (by decide)) (by decide) (fm_dec dtLa_31 15 rfl) (fm_dec dtLa_31 16 rfl) (fm_dec dtLa_31 17 rfl) (fm_dec dtLa_31 18 rfl) (fm_dec dtLa_31 19 rfl) ?_
  have hcw := hcu1
  have hsw := hsu1
  refine z_perm (ws := (fmL Tx (g, G.2) M1 ++ ((o, .inl (G.2.2.1 1, 1, .inr (.inl f1))) :: fmL Tm (g2, G.2) M2))) (wpermW _ _ _) ?_
  refine la_ref C (pc := 1569) (As := [.int (xs (t + 1)), .int (xs (t + 2)), .int (xs (t + 3))]) (st := []) cvL_250 (by decide +kernel) rfl rfl (Nat.le_of_ble_eq_true rfl) (by decide) hcw hsw (fm_dec dtLa_31 20 rfl) rfl hQ (fun r2 M3 h3 => ?_)
  obtain ⟨⟨v2, rfl⟩, hI3⟩ := h3
  refine z_then1 ?_
  refine z_lstore C.1 (pc := 1572) (i := 6) (by decide) rfl (fm_dec dtLa_31 21 rfl) ?_
  dsimp only [List.set_cons_zero, List.set_cons_succ]
  refine z_goto C.1 (pc := 1574) 1967 (by decide) (fm_dec dtLa_31 22 rfl) ?_
  exact z_perm (wpermB _ _ _) (la_fgt (kk M1 f1 M3 hI3))
set_option maxRecDepth 20000 in
theorem la_c35 {p : Program} {l : Launch} {e : Env} {s : State} {m : MethodId} {below : List Frame} {meth : Method} {c : Code} {G : fmG} {b n : Nat} {xs : Nat → Int32} {I : fmM → fmM → Prop} (hS : laS_oldest I) (C : laC p l s m meth c G b n xs) {g g2 : Nat → Nat} {M M2 : fmM} {f : Nat → Int64} {o t : Nat} {i : Int32} {cu su : Nat} (hi : laI n i t) (hcu : cu + 1 ≤ 601024) (hsu : su + 6 ≤ 7293034) (hcu1 : cu + 1 + 1 ≤ 601024) (hsu1 : su + 6 + 6 ≤ 7293034) (hI : I M M2) (kk : ∀ (M' : fmM) (f' : Nat → Int64) (M2' : fmM), I M' M2' → zEv p l e room_1 s m #[.ref b] below meth c G (fun q => s.heap.size ≤ q) 8 (lw_Z below #[.ref b] s) 1967 [some (.ref b), some (.ref (g 0)), some (.ref (g2 0)), some (.ref o), some (.int i), none, none, none] [] (fmL Tx (g, G.2) M' ++ ((o, .inl (G.2.2.1 1, 1, .inr (.inl f'))) :: fmL Tm (g2, G.2) M2')) (cu + 1) (su + 6)) : zEv p l e room_1 s m #[.ref b] below meth c G (fun q => s.heap.size ≤ q) 8 (lw_Z below #[.ref b] s) 1577 [some (.ref b), some (.ref (g 0)), some (.ref (g2 0)), some (.ref o), some (.int i), none, none, none] [] (fmL Tx (g, G.2) M ++ ((o, .inl (G.2.2.1 1, 1, .inr (.inl f))) :: fmL Tm (g2, G.2) M2)) cu su := by
  have h0 := hS M M2 hI
  refine z_aloadn C.1 (pc := 1577) (n := 1) 1 rfl rfl (fm_dec dtLa_31 23 rfl) ?_
  refine z_callX C.1 (T := Tx) (g := g) (M := M) (rest := (o, .inl (G.2.2.1 1, 1, .inr (.inl f))) :: fmL Tm (g2, G.2) M2) (k := 0) (ci := 10) (d' := 250) (pc := 1578) (As := []) (st := []) cvL_251 (by decide) rfl rfl rfl (by decide) (rm_fr (by decide)) (rm_lo (by decide) (by decide)) (rm_c hcu) (rm_s hsu) (fm_dec dtLa_31 24 rfl) ?_
  refine fmGood.imp (pvGood.fm C.2.2.2.2.2 (by decide) (by decide +kernel) h0) (fun o9 M1 h9 => ?_)
  obtain ⟨o', rfl, h8, h2⟩ := h9
  rcases h8 with ⟨v, rfl⟩ | ⟨h8, -⟩ | ⟨h8, -⟩
  · refine z_then1 ?_
    refine z_pop C.1 (pc := 1581) rfl (fm_dec dtLa_31 25 rfl) ?_
    refine z_aloadn C.1 (pc := 1582) (n := 2) 2 rfl rfl (fm_dec dtLa_31 26 rfl) ?_
    have hcw := hcu
    have hsw := hsu
    refine z_perm (ws := (fmL Tx (g, G.2) M1 ++ ((o, .inl (G.2.2.1 1, 1, .inr (.inl f))) :: fmL Tm (g2, G.2) M2))) (wpermW _ _ _) ?_
    refine la_ref C (pc := 1583) (As := []) (st := []) cvL_254 (by decide +kernel) rfl rfl (Nat.le_of_ble_eq_true rfl) (by decide) hcw hsw (fm_dec dtLa_31 27 rfl) rfl h2 (fun r2 M3 h3 => ?_)
    obtain ⟨⟨v2, rfl⟩, hI3⟩ := h3
    refine z_then1 ?_
    refine z_pop C.1 (pc := 1586) rfl (fm_dec dtLa_31 28 rfl) ?_
    refine z_goto C.1 (pc := 1587) 1967 (by decide) (fm_dec dtLa_31 29 rfl) ?_
    refine z_more (Nat.le_succ _) (Nat.le_add_right _ 6) ?_
    exact z_perm (wpermB _ _ _) (la_fgt (kk M1 f M3 hI3))
  · cases h8
  · cases h8
set_option maxRecDepth 20000 in
theorem la_c36 {p : Program} {l : Launch} {e : Env} {s : State} {m : MethodId} {below : List Frame} {meth : Method} {c : Code} {G : fmG} {b n : Nat} {xs : Nat → Int32} {I : fmM → fmM → Prop} (hS : laS_chain I) (C : laC p l s m meth c G b n xs) {g g2 : Nat → Nat} {M M2 : fmM} {f : Nat → Int64} {o t : Nat} {i : Int32} {cu su : Nat} (hi : laI n i t) (hcu : cu + 1 ≤ 601024) (hsu : su + 6 ≤ 7293034) (hcu1 : cu + 1 + 1 ≤ 601024) (hsu1 : su + 6 + 6 ≤ 7293034) (hI : I M M2) (kk : ∀ (M' : fmM) (f' : Nat → Int64) (M2' : fmM), I M' M2' → zEv p l e room_1 s m #[.ref b] below meth c G (fun q => s.heap.size ≤ q) 8 (lw_Z below #[.ref b] s) 1967 [some (.ref b), some (.ref (g 0)), some (.ref (g2 0)), some (.ref o), some (.int i), none, none, none] [] (fmL Tx (g, G.2) M' ++ ((o, .inl (G.2.2.1 1, 1, .inr (.inl f'))) :: fmL Tm (g2, G.2) M2')) (cu + 1) (su + 6)) : zEv p l e room_1 s m #[.ref b] below meth c G (fun q => s.heap.size ≤ q) 8 (lw_Z below #[.ref b] s) 1590 [some (.ref b), some (.ref (g 0)), some (.ref (g2 0)), some (.ref o), some (.int i), none, none, none] [] (fmL Tx (g, G.2) M ++ ((o, .inl (G.2.2.1 1, 1, .inr (.inl f))) :: fmL Tm (g2, G.2) M2)) cu su := by
  have h0 := hS M M2 (xs (t + 1)) (xs (t + 2)) hI
  refine z_aloadn C.1 (pc := 1590) (n := 1) 1 rfl rfl (fm_dec dtLa_32 0 rfl) ?_
  refine la_arg C (pc := 1591) (v := 1) (t + 1) rfl rfl (hi 1 (by decide)) (by decide) (fm_dec dtLa_32 1 rfl) (fm_dec dtLa_32 2 rfl) (fm_dec dtLa_32 3 rfl) (fm_dec dtLa_32 4 rfl) (fm_dec dtLa_32 5 rfl) ?_
  refine la_arg C (pc := 1597) (v := 2) (t + 2) rfl rfl (hi 2 (by decide)) (by decide) (fm_dec dtLa_32 6 rfl) (fm_dec dtLa_32 7 rfl) (fm_dec dtLa_32 8 rfl) (fm_dec dtLa_32 9 rfl) (fm_dec dtLa_32 10 rfl) ?_
  refine z_aloadn C.1 (pc := 1603) (n := 3) 3 rfl rfl (fm_dec dtLa_32 11 rfl) ?_
  have hw : pvGood Tx 250 qX10_chain [.ref 0, .int (xs (t + 1)), .int (xs (t + 2))] M (wI f (fun (r : Int32) (u : fmM × (Nat → Int64)) => pvGood Tm 250 qX11_chain [.ref 0, .int (xs (t + 1)), .int (xs (t + 2))] M2 (fun r2 M2' => tI r2 ∧ I u.1 M2')) (fun E M' => (E = fmNSE ∧ (fun (r : Int32) (u : fmM × (Nat → Int64)) => pvGood Tm 250 qX11_chain [.ref 0, .int (xs (t + 1)), .int (xs (t + 2))] M2 (fun r2 M2' => tI r2 ∧ I u.1 M2')) 1 (M', f)) ∨ (E = fmIAE ∧ (fun (r : Int32) (u : fmM × (Nat → Int64)) => pvGood Tm 250 qX11_chain [.ref 0, .int (xs (t + 1)), .int (xs (t + 2))] M2 (fun r2 M2' => tI r2 ∧ I u.1 M2')) 2 (M', f)))) := h0.imp (fun r9 M9 h9 => by
    obtain ⟨h8, h2⟩ := h9
    rcases h8 with ⟨v, rfl⟩ | ⟨-, rfl⟩ | ⟨-, rfl⟩
    · exact h2
    · exact Or.inr ⟨rfl, h2⟩
    · exact Or.inl ⟨rfl, h2⟩)
  refine z_callW C.1 (y' := qL_chain) (hh := [(0, 10, 13, 31), (0, 10, 17, 13)]) (W0 := WX G g o (fmL Tm (g2, G.2) M2) (M, f)) (WW := WX G g o (fmL Tm (g2, G.2) M2)) (Q := fun (r : Int32) (u : fmM × (Nat → Int64)) => pvGood Tm 250 qX11_chain [.ref 0, .int (xs (t + 1)), .int (xs (t + 2))] M2 (fun r2 M2' => tI r2 ∧ I u.1 M2')) (As := [.ref (g 0), .int (xs (t + 1)), .int (xs (t + 2)), .ref o]) (st := []) (pc := 1604) (fm_in 1218 (by decide +kernel) rfl) nst_L_chain niL nw_L_chain nd_L_chain rfl rfl (by decide) (show 311 ≤ room_1.frames by decide) (show 8 + (5 + 11) + 18200 ≤ room_1.locals by decide) (rm_c hcu) (rm_s hsu) (fm_dec dtLa_32 12 rfl) (w_chain C.2.2.2.2.2 hw) (fun r u hQ => ?_)
  obtain ⟨M1, f1⟩ := u
  refine z_istore C.1 (pc := 1607) (i := 5) (by decide) rfl (fm_dec dtLa_32 13 rfl) ?_
  dsimp only [List.set_cons_zero, List.set_cons_succ]
  refine z_aloadn C.1 (pc := 1609) (n := 2) 2 rfl rfl (fm_dec dtLa_32 14 rfl) ?_
  refine la_arg C (pc := 1610) (v := 1) (t + 1) rfl rfl (hi 1 (by decide)) (by decide) (fm_dec dtLa_32 15 rfl) (fm_dec dtLa_32 16 rfl) (fm_dec dtLa_32 17 rfl) (fm_dec dtLa_32 18 rfl) (fm_dec dtLa_32 19 rfl) ?_
  refine la_arg C (pc := 1616) (v := 2) (t + 2) rfl rfl (hi 2 (by decide)) (by decide) (fm_dec dtLa_32 20 rfl) (fm_dec dtLa_32 21 rfl) (fm_dec dtLa_32 22 rfl) (fm_dec dtLa_32 23 rfl) (fm_dec dtLa_32 24 rfl) ?_
  have hcw := hcu1
  have hsw := hsu1
  refine z_perm (ws := (fmL Tx (g, G.2) M1 ++ ((o, .inl (G.2.2.1 1, 1, .inr (.inl f1))) :: fmL Tm (g2, G.2) M2))) (wpermW _ _ _) ?_
  refine la_ref C (pc := 1622) (As := [.int (xs (t + 1)), .int (xs (t + 2))]) (st := []) cvL_257 (by decide +kernel) rfl rfl (Nat.le_of_ble_eq_true rfl) (by decide) hcw hsw (fm_dec dtLa_32 25 rfl) rfl hQ (fun r2 M3 h3 => ?_)
  obtain ⟨⟨v2, rfl⟩, hI3⟩ := h3
  refine z_then1 ?_
  refine z_istore C.1 (pc := 1625) (i := 6) (by decide) rfl (fm_dec dtLa_32 26 rfl) ?_
  dsimp only [List.set_cons_zero, List.set_cons_succ]
  refine z_goto C.1 (pc := 1627) 1967 (by decide) (fm_dec dtLa_32 27 rfl) ?_
  exact z_perm (wpermB _ _ _) (la_fgt (kk M1 f1 M3 hI3))
set_option maxRecDepth 20000 in
theorem la_c37 {p : Program} {l : Launch} {e : Env} {s : State} {m : MethodId} {below : List Frame} {meth : Method} {c : Code} {G : fmG} {b n : Nat} {xs : Nat → Int32} {I : fmM → fmM → Prop} (hS : laS_due I) (C : laC p l s m meth c G b n xs) {g g2 : Nat → Nat} {M M2 : fmM} {f : Nat → Int64} {o t : Nat} {i : Int32} {cu su : Nat} (hi : laI n i t) (hcu : cu + 1 ≤ 601024) (hsu : su + 6 ≤ 7293034) (hcu1 : cu + 1 + 1 ≤ 601024) (hsu1 : su + 6 + 6 ≤ 7293034) (hI : I M M2) (kk : ∀ (M' : fmM) (f' : Nat → Int64) (M2' : fmM), I M' M2' → zEv p l e room_1 s m #[.ref b] below meth c G (fun q => s.heap.size ≤ q) 8 (lw_Z below #[.ref b] s) 1967 [some (.ref b), some (.ref (g 0)), some (.ref (g2 0)), some (.ref o), some (.int i), none, none, none] [] (fmL Tx (g, G.2) M' ++ ((o, .inl (G.2.2.1 1, 1, .inr (.inl f'))) :: fmL Tm (g2, G.2) M2')) (cu + 1) (su + 6)) : zEv p l e room_1 s m #[.ref b] below meth c G (fun q => s.heap.size ≤ q) 8 (lw_Z below #[.ref b] s) 1630 [some (.ref b), some (.ref (g 0)), some (.ref (g2 0)), some (.ref o), some (.int i), none, none, none] [] (fmL Tx (g, G.2) M ++ ((o, .inl (G.2.2.1 1, 1, .inr (.inl f))) :: fmL Tm (g2, G.2) M2)) cu su := by
  have h0 := hS M M2 (xs (t + 1)) (xs (t + 2)) hI
  refine z_aloadn C.1 (pc := 1630) (n := 1) 1 rfl rfl (fm_dec dtLa_32 28 rfl) ?_
  refine la_arg C (pc := 1631) (v := 1) (t + 1) rfl rfl (hi 1 (by decide)) (by decide) (fm_dec dtLa_32 29 rfl) (fm_dec dtLa_33 0 rfl) (fm_dec dtLa_33 1 rfl) (fm_dec dtLa_33 2 rfl) (fm_dec dtLa_33 3 rfl) ?_
  refine la_arg C (pc := 1637) (v := 2) (t + 2) rfl rfl (hi 2 (by decide)) (by decide) (fm_dec dtLa_33 4 rfl) (fm_dec dtLa_33 5 rfl) (fm_dec dtLa_33 6 rfl) (fm_dec dtLa_33 7 rfl) (fm_dec dtLa_33 8 rfl) ?_
  refine z_aloadn C.1 (pc := 1643) (n := 3) 3 rfl rfl (fm_dec dtLa_33 9 rfl) ?_
  have hw : pvGood Tx 250 qX10_due [.ref 0, .int (xs (t + 1)), .int (xs (t + 2))] M (wI f (fun (r : Int32) (u : fmM × (Nat → Int64)) => pvGood Tm 250 qX11_due [.ref 0, .int (xs (t + 1)), .int (xs (t + 2))] M2 (fun r2 M2' => tI r2 ∧ I u.1 M2')) (fun E M' => (E = fmNSE ∧ (fun (r : Int32) (u : fmM × (Nat → Int64)) => pvGood Tm 250 qX11_due [.ref 0, .int (xs (t + 1)), .int (xs (t + 2))] M2 (fun r2 M2' => tI r2 ∧ I u.1 M2')) 1 (M', f)) ∨ (E = fmIAE ∧ (fun (r : Int32) (u : fmM × (Nat → Int64)) => pvGood Tm 250 qX11_due [.ref 0, .int (xs (t + 1)), .int (xs (t + 2))] M2 (fun r2 M2' => tI r2 ∧ I u.1 M2')) 2 (M', f)))) := h0.imp (fun r9 M9 h9 => by
    obtain ⟨h8, h2⟩ := h9
    rcases h8 with ⟨v, rfl⟩ | ⟨-, rfl⟩ | ⟨-, rfl⟩
    · exact h2
    · exact Or.inr ⟨rfl, h2⟩
    · exact Or.inl ⟨rfl, h2⟩)
  refine z_callW C.1 (y' := qL_due) (hh := [(0, 10, 13, 31), (0, 10, 17, 13)]) (W0 := WX G g o (fmL Tm (g2, G.2) M2) (M, f)) (WW := WX G g o (fmL Tm (g2, G.2) M2)) (Q := fun (r : Int32) (u : fmM × (Nat → Int64)) => pvGood Tm 250 qX11_due [.ref 0, .int (xs (t + 1)), .int (xs (t + 2))] M2 (fun r2 M2' => tI r2 ∧ I u.1 M2')) (As := [.ref (g 0), .int (xs (t + 1)), .int (xs (t + 2)), .ref o]) (st := []) (pc := 1644) (fm_in 1225 (by decide +kernel) rfl) nst_L_due niL nw_L_due nd_L_due rfl rfl (by decide) (show 311 ≤ room_1.frames by decide) (show 8 + (5 + 11) + 18200 ≤ room_1.locals by decide) (rm_c hcu) (rm_s hsu) (fm_dec dtLa_33 10 rfl) (w_due C.2.2.2.2.2 hw) (fun r u hQ => ?_)
  obtain ⟨M1, f1⟩ := u
  refine z_istore C.1 (pc := 1647) (i := 5) (by decide) rfl (fm_dec dtLa_33 11 rfl) ?_
  dsimp only [List.set_cons_zero, List.set_cons_succ]
  refine z_aloadn C.1 (pc := 1649) (n := 2) 2 rfl rfl (fm_dec dtLa_33 12 rfl) ?_
  refine la_arg C (pc := 1650) (v := 1) (t + 1) rfl rfl (hi 1 (by decide)) (by decide) (fm_dec dtLa_33 13 rfl) (fm_dec dtLa_33 14 rfl) (fm_dec dtLa_33 15 rfl) (fm_dec dtLa_33 16 rfl) (fm_dec dtLa_33 17 rfl) ?_
  refine la_arg C (pc := 1656) (v := 2) (t + 2) rfl rfl (hi 2 (by decide)) (by decide) (fm_dec dtLa_33 18 rfl) (fm_dec dtLa_33 19 rfl) (fm_dec dtLa_33 20 rfl) (fm_dec dtLa_33 21 rfl) (fm_dec dtLa_33 22 rfl) ?_
  have hcw := hcu1
  have hsw := hsu1
  refine z_perm (ws := (fmL Tx (g, G.2) M1 ++ ((o, .inl (G.2.2.1 1, 1, .inr (.inl f1))) :: fmL Tm (g2, G.2) M2))) (wpermW _ _ _) ?_
  refine la_ref C (pc := 1662) (As := [.int (xs (t + 1)), .int (xs (t + 2))]) (st := []) cvL_260 (by decide +kernel) rfl rfl (Nat.le_of_ble_eq_true rfl) (by decide) hcw hsw (fm_dec dtLa_33 23 rfl) rfl hQ (fun r2 M3 h3 => ?_)
  obtain ⟨⟨v2, rfl⟩, hI3⟩ := h3
  refine z_then1 ?_
  refine z_istore C.1 (pc := 1665) (i := 6) (by decide) rfl (fm_dec dtLa_33 24 rfl) ?_
  dsimp only [List.set_cons_zero, List.set_cons_succ]
  refine z_goto C.1 (pc := 1667) 1967 (by decide) (fm_dec dtLa_33 25 rfl) ?_
  exact z_perm (wpermB _ _ _) (la_fgt (kk M1 f1 M3 hI3))
set_option maxRecDepth 20000 in
theorem la_c38 {p : Program} {l : Launch} {e : Env} {s : State} {m : MethodId} {below : List Frame} {meth : Method} {c : Code} {G : fmG} {b n : Nat} {xs : Nat → Int32} {I : fmM → fmM → Prop} (hS : laS_news I) (C : laC p l s m meth c G b n xs) {g g2 : Nat → Nat} {M M2 : fmM} {f : Nat → Int64} {o t : Nat} {i : Int32} {cu su : Nat} (hi : laI n i t) (hcu : cu + 1 ≤ 601024) (hsu : su + 6 ≤ 7293034) (hcu1 : cu + 1 + 1 ≤ 601024) (hsu1 : su + 6 + 6 ≤ 7293034) (hI : I M M2) (kk : ∀ (M' : fmM) (f' : Nat → Int64) (M2' : fmM), I M' M2' → zEv p l e room_1 s m #[.ref b] below meth c G (fun q => s.heap.size ≤ q) 8 (lw_Z below #[.ref b] s) 1967 [some (.ref b), some (.ref (g 0)), some (.ref (g2 0)), some (.ref o), some (.int i), none, none, none] [] (fmL Tx (g, G.2) M' ++ ((o, .inl (G.2.2.1 1, 1, .inr (.inl f'))) :: fmL Tm (g2, G.2) M2')) (cu + 1) (su + 6)) : zEv p l e room_1 s m #[.ref b] below meth c G (fun q => s.heap.size ≤ q) 8 (lw_Z below #[.ref b] s) 1670 [some (.ref b), some (.ref (g 0)), some (.ref (g2 0)), some (.ref o), some (.int i), none, none, none] [] (fmL Tx (g, G.2) M ++ ((o, .inl (G.2.2.1 1, 1, .inr (.inl f))) :: fmL Tm (g2, G.2) M2)) cu su := by
  have h0 := hS M M2 (xs (t + 1)) hI
  refine z_aloadn C.1 (pc := 1670) (n := 1) 1 rfl rfl (fm_dec dtLa_33 26 rfl) ?_
  refine la_arg C (pc := 1671) (v := 1) (t + 1) rfl rfl (hi 1 (by decide)) (by decide) (fm_dec dtLa_33 27 rfl) (fm_dec dtLa_33 28 rfl) (fm_dec dtLa_33 29 rfl) (fm_dec dtLa_34 0 rfl) (fm_dec dtLa_34 1 rfl) ?_
  refine z_aloadn C.1 (pc := 1677) (n := 3) 3 rfl rfl (fm_dec dtLa_34 2 rfl) ?_
  have hw : pvGood Tx 250 qX10_news [.ref 0, .int (xs (t + 1))] M (wI f (fun (r : Int32) (u : fmM × (Nat → Int64)) => pvGood Tm 250 qX11_news [.ref 0, .int (xs (t + 1))] M2 (fun r2 M2' => tI r2 ∧ I u.1 M2')) (fun E M' => (E = fmNSE ∧ (fun (r : Int32) (u : fmM × (Nat → Int64)) => pvGood Tm 250 qX11_news [.ref 0, .int (xs (t + 1))] M2 (fun r2 M2' => tI r2 ∧ I u.1 M2')) 1 (M', f)))) := h0.imp (fun r9 M9 h9 => by
    obtain ⟨h8, h2⟩ := h9
    rcases h8 with ⟨v, rfl⟩ | ⟨h6, rfl⟩ | ⟨h6, rfl⟩
    · exact h2
    · exact absurd h6 (by decide)
    · exact ⟨rfl, h2⟩)
  refine z_callW C.1 (y' := qL_news) (hh := [(0, 9, 12, 31)]) (W0 := WX G g o (fmL Tm (g2, G.2) M2) (M, f)) (WW := WX G g o (fmL Tm (g2, G.2) M2)) (Q := fun (r : Int32) (u : fmM × (Nat → Int64)) => pvGood Tm 250 qX11_news [.ref 0, .int (xs (t + 1))] M2 (fun r2 M2' => tI r2 ∧ I u.1 M2')) (As := [.ref (g 0), .int (xs (t + 1)), .ref o]) (st := []) (pc := 1678) (fm_in 1232 (by decide +kernel) rfl) nst_L_news niL nw_L_news nd_L_news rfl rfl (by decide) (show 311 ≤ room_1.frames by decide) (show 8 + (4 + 11) + 18200 ≤ room_1.locals by decide) (rm_c hcu) (rm_s hsu) (fm_dec dtLa_34 3 rfl) (w_news C.2.2.2.2.2 hw) (fun r u hQ => ?_)
  obtain ⟨M1, f1⟩ := u
  refine z_istore C.1 (pc := 1681) (i := 5) (by decide) rfl (fm_dec dtLa_34 4 rfl) ?_
  dsimp only [List.set_cons_zero, List.set_cons_succ]
  refine z_aloadn C.1 (pc := 1683) (n := 2) 2 rfl rfl (fm_dec dtLa_34 5 rfl) ?_
  refine la_arg C (pc := 1684) (v := 1) (t + 1) rfl rfl (hi 1 (by decide)) (by decide) (fm_dec dtLa_34 6 rfl) (fm_dec dtLa_34 7 rfl) (fm_dec dtLa_34 8 rfl) (fm_dec dtLa_34 9 rfl) (fm_dec dtLa_34 10 rfl) ?_
  have hcw := hcu1
  have hsw := hsu1
  refine z_perm (ws := (fmL Tx (g, G.2) M1 ++ ((o, .inl (G.2.2.1 1, 1, .inr (.inl f1))) :: fmL Tm (g2, G.2) M2))) (wpermW _ _ _) ?_
  refine la_ref C (pc := 1690) (As := [.int (xs (t + 1))]) (st := []) cvL_263 (by decide +kernel) rfl rfl (Nat.le_of_ble_eq_true rfl) (by decide) hcw hsw (fm_dec dtLa_34 11 rfl) rfl hQ (fun r2 M3 h3 => ?_)
  obtain ⟨⟨v2, rfl⟩, hI3⟩ := h3
  refine z_then1 ?_
  refine z_istore C.1 (pc := 1693) (i := 6) (by decide) rfl (fm_dec dtLa_34 12 rfl) ?_
  dsimp only [List.set_cons_zero, List.set_cons_succ]
  refine z_goto C.1 (pc := 1695) 1967 (by decide) (fm_dec dtLa_34 13 rfl) ?_
  exact z_perm (wpermB _ _ _) (la_fgt (kk M1 f1 M3 hI3))
set_option maxRecDepth 20000 in
theorem la_c39 {p : Program} {l : Launch} {e : Env} {s : State} {m : MethodId} {below : List Frame} {meth : Method} {c : Code} {G : fmG} {b n : Nat} {xs : Nat → Int32} {I : fmM → fmM → Prop} (hS : laS_expects I) (C : laC p l s m meth c G b n xs) {g g2 : Nat → Nat} {M M2 : fmM} {f : Nat → Int64} {o t : Nat} {i : Int32} {cu su : Nat} (hi : laI n i t) (hcu : cu + 1 ≤ 601024) (hsu : su + 6 ≤ 7293034) (hcu1 : cu + 1 + 1 ≤ 601024) (hsu1 : su + 6 + 6 ≤ 7293034) (hI : I M M2) (kk : ∀ (M' : fmM) (f' : Nat → Int64) (M2' : fmM), I M' M2' → zEv p l e room_1 s m #[.ref b] below meth c G (fun q => s.heap.size ≤ q) 8 (lw_Z below #[.ref b] s) 1967 [some (.ref b), some (.ref (g 0)), some (.ref (g2 0)), some (.ref o), some (.int i), none, none, none] [] (fmL Tx (g, G.2) M' ++ ((o, .inl (G.2.2.1 1, 1, .inr (.inl f'))) :: fmL Tm (g2, G.2) M2')) (cu + 1) (su + 6)) : zEv p l e room_1 s m #[.ref b] below meth c G (fun q => s.heap.size ≤ q) 8 (lw_Z below #[.ref b] s) 1698 [some (.ref b), some (.ref (g 0)), some (.ref (g2 0)), some (.ref o), some (.int i), none, none, none] [] (fmL Tx (g, G.2) M ++ ((o, .inl (G.2.2.1 1, 1, .inr (.inl f))) :: fmL Tm (g2, G.2) M2)) cu su := by
  have h0 := hS M M2 (xs (t + 1)) (xs (t + 2)) (xs (t + 3)) hI
  refine z_aloadn C.1 (pc := 1698) (n := 1) 1 rfl rfl (fm_dec dtLa_34 14 rfl) ?_
  refine la_arg C (pc := 1699) (v := 1) (t + 1) rfl rfl (hi 1 (by decide)) (by decide) (fm_dec dtLa_34 15 rfl) (fm_dec dtLa_34 16 rfl) (fm_dec dtLa_34 17 rfl) (fm_dec dtLa_34 18 rfl) (fm_dec dtLa_34 19 rfl) ?_
  refine la_arg C (pc := 1705) (v := 2) (t + 2) rfl rfl (hi 2 (by decide)) (by decide) (fm_dec dtLa_34 20 rfl) (fm_dec dtLa_34 21 rfl) (fm_dec dtLa_34 22 rfl) (fm_dec dtLa_34 23 rfl) (fm_dec dtLa_34 24 rfl) ?_
  refine la_arg C (pc := 1711) (v := 3) (t + 3) rfl rfl (hi 3 (by decide)) (by decide) (fm_dec dtLa_34 25 rfl) (fm_dec dtLa_34 26 rfl) (fm_dec dtLa_34 27 rfl) (fm_dec dtLa_34 28 rfl) (fm_dec dtLa_34 29 rfl) ?_
  refine z_aloadn C.1 (pc := 1717) (n := 3) 3 rfl rfl (fm_dec dtLa_35 0 rfl) ?_
  have hw : pvGood Tx 250 qX10_expects [.ref 0, .int (xs (t + 1)), .int (xs (t + 2)), .int (xs (t + 3))] M (wJ f (fun (r : Int32) (u : fmM × (Nat → Int64)) => pvGood Tm 250 qX11_expects [.ref 0, .int (xs (t + 1)), .int (xs (t + 2)), .int (xs (t + 3))] M2 (fun r2 M2' => tJ r2 ∧ I u.1 M2')) (fun E M' => (E = fmNSE ∧ (fun (r : Int32) (u : fmM × (Nat → Int64)) => pvGood Tm 250 qX11_expects [.ref 0, .int (xs (t + 1)), .int (xs (t + 2)), .int (xs (t + 3))] M2 (fun r2 M2' => tJ r2 ∧ I u.1 M2')) 1 (M', f)) ∨ (E = fmIAE ∧ (fun (r : Int32) (u : fmM × (Nat → Int64)) => pvGood Tm 250 qX11_expects [.ref 0, .int (xs (t + 1)), .int (xs (t + 2)), .int (xs (t + 3))] M2 (fun r2 M2' => tJ r2 ∧ I u.1 M2')) 2 (M', f)))) := h0.imp (fun r9 M9 h9 => by
    obtain ⟨h8, h2⟩ := h9
    rcases h8 with ⟨v, rfl⟩ | ⟨-, rfl⟩ | ⟨-, rfl⟩
    · exact h2
    · exact Or.inr ⟨rfl, h2⟩
    · exact Or.inl ⟨rfl, h2⟩)
  refine z_callW C.1 (y' := qL_expects) (hh := [(0, 11, 14, 31), (0, 11, 18, 13)]) (W0 := WX G g o (fmL Tm (g2, G.2) M2) (M, f)) (WW := WX G g o (fmL Tm (g2, G.2) M2)) (Q := fun (r : Int32) (u : fmM × (Nat → Int64)) => pvGood Tm 250 qX11_expects [.ref 0, .int (xs (t + 1)), .int (xs (t + 2)), .int (xs (t + 3))] M2 (fun r2 M2' => tJ r2 ∧ I u.1 M2')) (As := [.ref (g 0), .int (xs (t + 1)), .int (xs (t + 2)), .int (xs (t + 3)), .ref o]) (st := []) (pc := 1718) (fm_in 1243 (by decide +kernel) rfl) nst_L_expects niL nw_L_expects nd_L_expects rfl rfl (by decide) (show 311 ≤ room_1.frames by decide) (show 8 + (6 + 11) + 18200 ≤ room_1.locals by decide) (rm_c hcu) (rm_s hsu) (fm_dec dtLa_35 1 rfl) (w_expects C.2.2.2.2.2 hw) (fun r u hQ => ?_)
  obtain ⟨M1, f1⟩ := u
  refine z_istore C.1 (pc := 1721) (i := 5) (by decide) rfl (fm_dec dtLa_35 2 rfl) ?_
  dsimp only [List.set_cons_zero, List.set_cons_succ]
  refine z_aloadn C.1 (pc := 1723) (n := 2) 2 rfl rfl (fm_dec dtLa_35 3 rfl) ?_
  refine la_arg C (pc := 1724) (v := 1) (t + 1) rfl rfl (hi 1 (by decide)) (by decide) (fm_dec dtLa_35 4 rfl) (fm_dec dtLa_35 5 rfl) (fm_dec dtLa_35 6 rfl) (fm_dec dtLa_35 7 rfl) (fm_dec dtLa_35 8 rfl) ?_
  refine la_arg C (pc := 1730) (v := 2) (t + 2) rfl rfl (hi 2 (by decide)) (by decide) (fm_dec dtLa_35 9 rfl) (fm_dec dtLa_35 10 rfl) (fm_dec dtLa_35 11 rfl) (fm_dec dtLa_35 12 rfl) (fm_dec dtLa_35 13 rfl) ?_
  refine la_arg C (pc := 1736) (v := 3) (t + 3) rfl rfl (hi 3 (by decide)) (by decide) (fm_dec dtLa_35 14 rfl) (fm_dec dtLa_35 15 rfl) (fm_dec dtLa_35 16 rfl) (fm_dec dtLa_35 17 rfl) (fm_dec dtLa_35 18 rfl) ?_
  have hcw := hcu1
  have hsw := hsu1
  refine z_perm (ws := (fmL Tx (g, G.2) M1 ++ ((o, .inl (G.2.2.1 1, 1, .inr (.inl f1))) :: fmL Tm (g2, G.2) M2))) (wpermW _ _ _) ?_
  refine la_ref C (pc := 1742) (As := [.int (xs (t + 1)), .int (xs (t + 2)), .int (xs (t + 3))]) (st := []) cvL_266 (by decide +kernel) rfl rfl (Nat.le_of_ble_eq_true rfl) (by decide) hcw hsw (fm_dec dtLa_35 19 rfl) rfl hQ (fun r2 M3 h3 => ?_)
  obtain ⟨⟨v2, rfl⟩, hI3⟩ := h3
  refine z_then1 ?_
  refine z_lstore C.1 (pc := 1745) (i := 6) (by decide) rfl (fm_dec dtLa_35 20 rfl) ?_
  dsimp only [List.set_cons_zero, List.set_cons_succ]
  refine z_goto C.1 (pc := 1747) 1967 (by decide) (fm_dec dtLa_35 21 rfl) ?_
  exact z_perm (wpermB _ _ _) (la_fgt (kk M1 f1 M3 hI3))
set_option maxRecDepth 20000 in
theorem la_c40 {p : Program} {l : Launch} {e : Env} {s : State} {m : MethodId} {below : List Frame} {meth : Method} {c : Code} {G : fmG} {b n : Nat} {xs : Nat → Int32} {I : fmM → fmM → Prop} (hS : laS_worst I) (C : laC p l s m meth c G b n xs) {g g2 : Nat → Nat} {M M2 : fmM} {f : Nat → Int64} {o t : Nat} {i : Int32} {cu su : Nat} (hi : laI n i t) (hcu : cu + 1 ≤ 601024) (hsu : su + 6 ≤ 7293034) (hcu1 : cu + 1 + 1 ≤ 601024) (hsu1 : su + 6 + 6 ≤ 7293034) (hI : I M M2) (kk : ∀ (M' : fmM) (f' : Nat → Int64) (M2' : fmM), I M' M2' → zEv p l e room_1 s m #[.ref b] below meth c G (fun q => s.heap.size ≤ q) 8 (lw_Z below #[.ref b] s) 1967 [some (.ref b), some (.ref (g 0)), some (.ref (g2 0)), some (.ref o), some (.int i), none, none, none] [] (fmL Tx (g, G.2) M' ++ ((o, .inl (G.2.2.1 1, 1, .inr (.inl f'))) :: fmL Tm (g2, G.2) M2')) (cu + 1) (su + 6)) : zEv p l e room_1 s m #[.ref b] below meth c G (fun q => s.heap.size ≤ q) 8 (lw_Z below #[.ref b] s) 1750 [some (.ref b), some (.ref (g 0)), some (.ref (g2 0)), some (.ref o), some (.int i), none, none, none] [] (fmL Tx (g, G.2) M ++ ((o, .inl (G.2.2.1 1, 1, .inr (.inl f))) :: fmL Tm (g2, G.2) M2)) cu su := by
  have h0 := hS M M2 hI
  refine z_aloadn C.1 (pc := 1750) (n := 1) 1 rfl rfl (fm_dec dtLa_35 22 rfl) ?_
  refine z_callX C.1 (T := Tx) (g := g) (M := M) (rest := (o, .inl (G.2.2.1 1, 1, .inr (.inl f))) :: fmL Tm (g2, G.2) M2) (k := 0) (ci := 10) (d' := 250) (pc := 1751) (As := []) (st := []) cvL_267 (by decide) rfl rfl rfl (by decide) (rm_fr (by decide)) (rm_lo (by decide) (by decide)) (rm_c hcu) (rm_s hsu) (fm_dec dtLa_35 23 rfl) ?_
  refine fmGood.imp (pvGood.fm C.2.2.2.2.2 (by decide) (by decide +kernel) h0) (fun o9 M1 h9 => ?_)
  obtain ⟨o', rfl, h8, h2⟩ := h9
  rcases h8 with ⟨v, rfl⟩ | ⟨h8, -⟩ | ⟨h8, -⟩
  · refine z_then1 ?_
    refine z_pop C.1 (pc := 1754) rfl (fm_dec dtLa_35 24 rfl) ?_
    refine z_aloadn C.1 (pc := 1755) (n := 2) 2 rfl rfl (fm_dec dtLa_35 25 rfl) ?_
    have hcw := hcu
    have hsw := hsu
    refine z_perm (ws := (fmL Tx (g, G.2) M1 ++ ((o, .inl (G.2.2.1 1, 1, .inr (.inl f))) :: fmL Tm (g2, G.2) M2))) (wpermW _ _ _) ?_
    refine la_ref C (pc := 1756) (As := []) (st := []) cvL_270 (by decide +kernel) rfl rfl (Nat.le_of_ble_eq_true rfl) (by decide) hcw hsw (fm_dec dtLa_35 26 rfl) rfl h2 (fun r2 M3 h3 => ?_)
    obtain ⟨⟨v2, rfl⟩, hI3⟩ := h3
    refine z_then1 ?_
    refine z_pop C.1 (pc := 1759) rfl (fm_dec dtLa_35 27 rfl) ?_
    refine z_goto C.1 (pc := 1760) 1967 (by decide) (fm_dec dtLa_35 28 rfl) ?_
    refine z_more (Nat.le_succ _) (Nat.le_add_right _ 6) ?_
    exact z_perm (wpermB _ _ _) (la_fgt (kk M1 f M3 hI3))
  · cases h8
  · cases h8
set_option maxRecDepth 20000 in
theorem la_c41 {p : Program} {l : Launch} {e : Env} {s : State} {m : MethodId} {below : List Frame} {meth : Method} {c : Code} {G : fmG} {b n : Nat} {xs : Nat → Int32} {I : fmM → fmM → Prop} (hS : laS_years I) (C : laC p l s m meth c G b n xs) {g g2 : Nat → Nat} {M M2 : fmM} {f : Nat → Int64} {o t : Nat} {i : Int32} {cu su : Nat} (hi : laI n i t) (hcu : cu + 1 ≤ 601024) (hsu : su + 6 ≤ 7293034) (hcu1 : cu + 1 + 1 ≤ 601024) (hsu1 : su + 6 + 6 ≤ 7293034) (hI : I M M2) (kk : ∀ (M' : fmM) (f' : Nat → Int64) (M2' : fmM), I M' M2' → zEv p l e room_1 s m #[.ref b] below meth c G (fun q => s.heap.size ≤ q) 8 (lw_Z below #[.ref b] s) 1967 [some (.ref b), some (.ref (g 0)), some (.ref (g2 0)), some (.ref o), some (.int i), none, none, none] [] (fmL Tx (g, G.2) M' ++ ((o, .inl (G.2.2.1 1, 1, .inr (.inl f'))) :: fmL Tm (g2, G.2) M2')) (cu + 1) (su + 6)) : zEv p l e room_1 s m #[.ref b] below meth c G (fun q => s.heap.size ≤ q) 8 (lw_Z below #[.ref b] s) 1763 [some (.ref b), some (.ref (g 0)), some (.ref (g2 0)), some (.ref o), some (.int i), none, none, none] [] (fmL Tx (g, G.2) M ++ ((o, .inl (G.2.2.1 1, 1, .inr (.inl f))) :: fmL Tm (g2, G.2) M2)) cu su := by
  have h0 := hS M M2 (xs (t + 1)) (xs (t + 2)) (xs (t + 3)) hI
  refine z_aloadn C.1 (pc := 1763) (n := 1) 1 rfl rfl (fm_dec dtLa_35 29 rfl) ?_
  refine la_arg C (pc := 1764) (v := 1) (t + 1) rfl rfl (hi 1 (by decide)) (by decide) (fm_dec dtLa_36 0 rfl) (fm_dec dtLa_36 1 rfl) (fm_dec dtLa_36 2 rfl) (fm_dec dtLa_36 3 rfl) (fm_dec dtLa_36 4 rfl) ?_
  refine la_arg C (pc := 1770) (v := 2) (t + 2) rfl rfl (hi 2 (by decide)) (by decide) (fm_dec dtLa_36 5 rfl) (fm_dec dtLa_36 6 rfl) (fm_dec dtLa_36 7 rfl) (fm_dec dtLa_36 8 rfl) (fm_dec dtLa_36 9 rfl) ?_
  refine la_arg C (pc := 1776) (v := 3) (t + 3) rfl rfl (hi 3 (by decide)) (by decide) (fm_dec dtLa_36 10 rfl) (fm_dec dtLa_36 11 rfl) (fm_dec dtLa_36 12 rfl) (fm_dec dtLa_36 13 rfl) (fm_dec dtLa_36 14 rfl) ?_
  refine z_aloadn C.1 (pc := 1782) (n := 3) 3 rfl rfl (fm_dec dtLa_36 15 rfl) ?_
  have hw : pvGood Tx 250 qX10_years [.ref 0, .int (xs (t + 1)), .int (xs (t + 2)), .int (xs (t + 3))] M (wI f (fun (r : Int32) (u : fmM × (Nat → Int64)) => pvGood Tm 250 qX11_years [.ref 0, .int (xs (t + 1)), .int (xs (t + 2)), .int (xs (t + 3))] M2 (fun r2 M2' => tI r2 ∧ I u.1 M2')) (fun E M' => (E = fmIAE ∧ (fun (r : Int32) (u : fmM × (Nat → Int64)) => pvGood Tm 250 qX11_years [.ref 0, .int (xs (t + 1)), .int (xs (t + 2)), .int (xs (t + 3))] M2 (fun r2 M2' => tI r2 ∧ I u.1 M2')) 1 (M', f)))) := h0.imp (fun r9 M9 h9 => by
    obtain ⟨h8, h2⟩ := h9
    rcases h8 with ⟨v, rfl⟩ | ⟨h6, rfl⟩ | ⟨h6, rfl⟩
    · exact h2
    · exact ⟨rfl, h2⟩
    · exact absurd h6 (by decide))
  refine z_callW C.1 (y' := qL_years) (hh := [(0, 12, 15, 13)]) (W0 := WX G g o (fmL Tm (g2, G.2) M2) (M, f)) (WW := WX G g o (fmL Tm (g2, G.2) M2)) (Q := fun (r : Int32) (u : fmM × (Nat → Int64)) => pvGood Tm 250 qX11_years [.ref 0, .int (xs (t + 1)), .int (xs (t + 2)), .int (xs (t + 3))] M2 (fun r2 M2' => tI r2 ∧ I u.1 M2')) (As := [.ref (g 0), .int (xs (t + 1)), .int (xs (t + 2)), .int (xs (t + 3)), .ref o]) (st := []) (pc := 1783) (fm_in 1251 (by decide +kernel) rfl) nst_L_years niL nw_L_years nd_L_years rfl rfl (by decide) (show 311 ≤ room_1.frames by decide) (show 8 + (6 + 11) + 18200 ≤ room_1.locals by decide) (rm_c hcu) (rm_s hsu) (fm_dec dtLa_36 16 rfl) (w_years C.2.2.2.2.2 hw) (fun r u hQ => ?_)
  obtain ⟨M1, f1⟩ := u
  refine z_istore C.1 (pc := 1786) (i := 5) (by decide) rfl (fm_dec dtLa_36 17 rfl) ?_
  dsimp only [List.set_cons_zero, List.set_cons_succ]
  refine z_aloadn C.1 (pc := 1788) (n := 2) 2 rfl rfl (fm_dec dtLa_36 18 rfl) ?_
  refine la_arg C (pc := 1789) (v := 1) (t + 1) rfl rfl (hi 1 (by decide)) (by decide) (fm_dec dtLa_36 19 rfl) (fm_dec dtLa_36 20 rfl) (fm_dec dtLa_36 21 rfl) (fm_dec dtLa_36 22 rfl) (fm_dec dtLa_36 23 rfl) ?_
  refine la_arg C (pc := 1795) (v := 2) (t + 2) rfl rfl (hi 2 (by decide)) (by decide) (fm_dec dtLa_36 24 rfl) (fm_dec dtLa_36 25 rfl) (fm_dec dtLa_36 26 rfl) (fm_dec dtLa_36 27 rfl) (fm_dec dtLa_36 28 rfl) ?_
  refine la_arg C (pc := 1801) (v := 3) (t + 3) rfl rfl (hi 3 (by decide)) (by decide) (fm_dec dtLa_36 29 rfl) (fm_dec dtLa_37 0 rfl) (fm_dec dtLa_37 1 rfl) (fm_dec dtLa_37 2 rfl) (fm_dec dtLa_37 3 rfl) ?_
  have hcw := hcu1
  have hsw := hsu1
  refine z_perm (ws := (fmL Tx (g, G.2) M1 ++ ((o, .inl (G.2.2.1 1, 1, .inr (.inl f1))) :: fmL Tm (g2, G.2) M2))) (wpermW _ _ _) ?_
  refine la_ref C (pc := 1807) (As := [.int (xs (t + 1)), .int (xs (t + 2)), .int (xs (t + 3))]) (st := []) cvL_273 (by decide +kernel) rfl rfl (Nat.le_of_ble_eq_true rfl) (by decide) hcw hsw (fm_dec dtLa_37 4 rfl) rfl hQ (fun r2 M3 h3 => ?_)
  obtain ⟨⟨v2, rfl⟩, hI3⟩ := h3
  refine z_then1 ?_
  refine z_istore C.1 (pc := 1810) (i := 6) (by decide) rfl (fm_dec dtLa_37 5 rfl) ?_
  dsimp only [List.set_cons_zero, List.set_cons_succ]
  refine z_goto C.1 (pc := 1812) 1967 (by decide) (fm_dec dtLa_37 6 rfl) ?_
  exact z_perm (wpermB _ _ _) (la_fgt (kk M1 f1 M3 hI3))
set_option maxRecDepth 20000 in
theorem la_c42 {p : Program} {l : Launch} {e : Env} {s : State} {m : MethodId} {below : List Frame} {meth : Method} {c : Code} {G : fmG} {b n : Nat} {xs : Nat → Int32} {I : fmM → fmM → Prop} (hS : laS_span I) (C : laC p l s m meth c G b n xs) {g g2 : Nat → Nat} {M M2 : fmM} {f : Nat → Int64} {o t : Nat} {i : Int32} {cu su : Nat} (hi : laI n i t) (hcu : cu + 1 ≤ 601024) (hsu : su + 6 ≤ 7293034) (hcu1 : cu + 1 + 1 ≤ 601024) (hsu1 : su + 6 + 6 ≤ 7293034) (hI : I M M2) (kk : ∀ (M' : fmM) (f' : Nat → Int64) (M2' : fmM), I M' M2' → zEv p l e room_1 s m #[.ref b] below meth c G (fun q => s.heap.size ≤ q) 8 (lw_Z below #[.ref b] s) 1967 [some (.ref b), some (.ref (g 0)), some (.ref (g2 0)), some (.ref o), some (.int i), none, none, none] [] (fmL Tx (g, G.2) M' ++ ((o, .inl (G.2.2.1 1, 1, .inr (.inl f'))) :: fmL Tm (g2, G.2) M2')) (cu + 1) (su + 6)) : zEv p l e room_1 s m #[.ref b] below meth c G (fun q => s.heap.size ≤ q) 8 (lw_Z below #[.ref b] s) 1815 [some (.ref b), some (.ref (g 0)), some (.ref (g2 0)), some (.ref o), some (.int i), none, none, none] [] (fmL Tx (g, G.2) M ++ ((o, .inl (G.2.2.1 1, 1, .inr (.inl f))) :: fmL Tm (g2, G.2) M2)) cu su := by
  have h0 := hS M M2 (xs (t + 1)) (xs (t + 2)) (xs (t + 3)) (xs (t + 4)) (xs (t + 5)) hI
  refine z_aloadn C.1 (pc := 1815) (n := 1) 1 rfl rfl (fm_dec dtLa_37 7 rfl) ?_
  refine la_arg C (pc := 1816) (v := 1) (t + 1) rfl rfl (hi 1 (by decide)) (by decide) (fm_dec dtLa_37 8 rfl) (fm_dec dtLa_37 9 rfl) (fm_dec dtLa_37 10 rfl) (fm_dec dtLa_37 11 rfl) (fm_dec dtLa_37 12 rfl) ?_
  refine la_arg C (pc := 1822) (v := 2) (t + 2) rfl rfl (hi 2 (by decide)) (by decide) (fm_dec dtLa_37 13 rfl) (fm_dec dtLa_37 14 rfl) (fm_dec dtLa_37 15 rfl) (fm_dec dtLa_37 16 rfl) (fm_dec dtLa_37 17 rfl) ?_
  refine la_arg C (pc := 1828) (v := 3) (t + 3) rfl rfl (hi 3 (by decide)) (by decide) (fm_dec dtLa_37 18 rfl) (fm_dec dtLa_37 19 rfl) (fm_dec dtLa_37 20 rfl) (fm_dec dtLa_37 21 rfl) (fm_dec dtLa_37 22 rfl) ?_
  refine la_arg C (pc := 1834) (v := 4) (t + 4) rfl rfl (hi 4 (by decide)) (by decide) (fm_dec dtLa_37 23 rfl) (fm_dec dtLa_37 24 rfl) (fm_dec dtLa_37 25 rfl) (fm_dec dtLa_37 26 rfl) (fm_dec dtLa_37 27 rfl) ?_
  refine la_arg C (pc := 1840) (v := 5) (t + 5) rfl rfl (hi 5 (by decide)) (by decide) (fm_dec dtLa_37 28 rfl) (fm_dec dtLa_37 29 rfl) (fm_dec dtLa_38 0 rfl) (fm_dec dtLa_38 1 rfl) (fm_dec dtLa_38 2 rfl) ?_
  refine z_aloadn C.1 (pc := 1846) (n := 3) 3 rfl rfl (fm_dec dtLa_38 3 rfl) ?_
  have hw : pvGood Tx 250 qX10_span [.ref 0, .int (xs (t + 1)), .int (xs (t + 2)), .int (xs (t + 3)), .int (xs (t + 4)), .int (xs (t + 5))] M (wI f (fun (r : Int32) (u : fmM × (Nat → Int64)) => pvGood Tm 250 qX11_span [.ref 0, .int (xs (t + 1)), .int (xs (t + 2)), .int (xs (t + 3)), .int (xs (t + 4)), .int (xs (t + 5))] M2 (fun r2 M2' => tI r2 ∧ I u.1 M2')) (fun E M' => (E = fmIAE ∧ (fun (r : Int32) (u : fmM × (Nat → Int64)) => pvGood Tm 250 qX11_span [.ref 0, .int (xs (t + 1)), .int (xs (t + 2)), .int (xs (t + 3)), .int (xs (t + 4)), .int (xs (t + 5))] M2 (fun r2 M2' => tI r2 ∧ I u.1 M2')) 1 (M', f)))) := h0.imp (fun r9 M9 h9 => by
    obtain ⟨h8, h2⟩ := h9
    rcases h8 with ⟨v, rfl⟩ | ⟨h6, rfl⟩ | ⟨h6, rfl⟩
    · exact h2
    · exact ⟨rfl, h2⟩
    · exact absurd h6 (by decide))
  refine z_callW C.1 (y' := qL_span) (hh := [(0, 16, 19, 13)]) (W0 := WX G g o (fmL Tm (g2, G.2) M2) (M, f)) (WW := WX G g o (fmL Tm (g2, G.2) M2)) (Q := fun (r : Int32) (u : fmM × (Nat → Int64)) => pvGood Tm 250 qX11_span [.ref 0, .int (xs (t + 1)), .int (xs (t + 2)), .int (xs (t + 3)), .int (xs (t + 4)), .int (xs (t + 5))] M2 (fun r2 M2' => tI r2 ∧ I u.1 M2')) (As := [.ref (g 0), .int (xs (t + 1)), .int (xs (t + 2)), .int (xs (t + 3)), .int (xs (t + 4)), .int (xs (t + 5)), .ref o]) (st := []) (pc := 1847) (fm_in 1282 (by decide +kernel) rfl) nst_L_span niL nw_L_span nd_L_span rfl rfl (by decide) (show 311 ≤ room_1.frames by decide) (show 8 + (8 + 11) + 18200 ≤ room_1.locals by decide) (rm_c hcu) (rm_s hsu) (fm_dec dtLa_38 4 rfl) (w_span C.2.2.2.2.2 hw) (fun r u hQ => ?_)
  obtain ⟨M1, f1⟩ := u
  refine z_istore C.1 (pc := 1850) (i := 5) (by decide) rfl (fm_dec dtLa_38 5 rfl) ?_
  dsimp only [List.set_cons_zero, List.set_cons_succ]
  refine z_aloadn C.1 (pc := 1852) (n := 2) 2 rfl rfl (fm_dec dtLa_38 6 rfl) ?_
  refine la_arg C (pc := 1853) (v := 1) (t + 1) rfl rfl (hi 1 (by decide)) (by decide) (fm_dec dtLa_38 7 rfl) (fm_dec dtLa_38 8 rfl) (fm_dec dtLa_38 9 rfl) (fm_dec dtLa_38 10 rfl) (fm_dec dtLa_38 11 rfl) ?_
  refine la_arg C (pc := 1859) (v := 2) (t + 2) rfl rfl (hi 2 (by decide)) (by decide) (fm_dec dtLa_38 12 rfl) (fm_dec dtLa_38 13 rfl) (fm_dec dtLa_38 14 rfl) (fm_dec dtLa_38 15 rfl) (fm_dec dtLa_38 16 rfl) ?_
  refine la_arg C (pc := 1865) (v := 3) (t + 3) rfl rfl (hi 3 (by decide)) (by decide) (fm_dec dtLa_38 17 rfl) (fm_dec dtLa_38 18 rfl) (fm_dec dtLa_38 19 rfl) (fm_dec dtLa_38 20 rfl) (fm_dec dtLa_38 21 rfl) ?_
  refine la_arg C (pc := 1871) (v := 4) (t + 4) rfl rfl (hi 4 (by decide)) (by decide) (fm_dec dtLa_38 22 rfl) (fm_dec dtLa_38 23 rfl) (fm_dec dtLa_38 24 rfl) (fm_dec dtLa_38 25 rfl) (fm_dec dtLa_38 26 rfl) ?_
  refine la_arg C (pc := 1877) (v := 5) (t + 5) rfl rfl (hi 5 (by decide)) (by decide) (fm_dec dtLa_38 27 rfl) (fm_dec dtLa_38 28 rfl) (fm_dec dtLa_38 29 rfl) (fm_dec dtLa_39 0 rfl) (fm_dec dtLa_39 1 rfl) ?_
  have hcw := hcu1
  have hsw := hsu1
  refine z_perm (ws := (fmL Tx (g, G.2) M1 ++ ((o, .inl (G.2.2.1 1, 1, .inr (.inl f1))) :: fmL Tm (g2, G.2) M2))) (wpermW _ _ _) ?_
  refine la_ref C (pc := 1883) (As := [.int (xs (t + 1)), .int (xs (t + 2)), .int (xs (t + 3)), .int (xs (t + 4)), .int (xs (t + 5))]) (st := []) cvL_276 (by decide +kernel) rfl rfl (Nat.le_of_ble_eq_true rfl) (by decide) hcw hsw (fm_dec dtLa_39 2 rfl) rfl hQ (fun r2 M3 h3 => ?_)
  obtain ⟨⟨v2, rfl⟩, hI3⟩ := h3
  refine z_then1 ?_
  refine z_istore C.1 (pc := 1886) (i := 6) (by decide) rfl (fm_dec dtLa_39 3 rfl) ?_
  dsimp only [List.set_cons_zero, List.set_cons_succ]
  refine z_goto C.1 (pc := 1888) 1967 (by decide) (fm_dec dtLa_39 4 rfl) ?_
  exact z_perm (wpermB _ _ _) (la_fgt (kk M1 f1 M3 hI3))
set_option maxRecDepth 20000 in
theorem la_c43 {p : Program} {l : Launch} {e : Env} {s : State} {m : MethodId} {below : List Frame} {meth : Method} {c : Code} {G : fmG} {b n : Nat} {xs : Nat → Int32} {I : fmM → fmM → Prop} (hS : laS_image I) (C : laC p l s m meth c G b n xs) {g g2 : Nat → Nat} {M M2 : fmM} {f : Nat → Int64} {o t : Nat} {i : Int32} {cu su : Nat} (hi : laI n i t) (hcu : cu + 1 ≤ 601024) (hsu : su + 6 ≤ 7293034) (hcu1 : cu + 1 + 1 ≤ 601024) (hsu1 : su + 6 + 6 ≤ 7293034) (hI : I M M2) (kk : ∀ (M' : fmM) (f' : Nat → Int64) (M2' : fmM), I M' M2' → zEv p l e room_1 s m #[.ref b] below meth c G (fun q => s.heap.size ≤ q) 8 (lw_Z below #[.ref b] s) 1967 [some (.ref b), some (.ref (g 0)), some (.ref (g2 0)), some (.ref o), some (.int i), none, none, none] [] (fmL Tx (g, G.2) M' ++ ((o, .inl (G.2.2.1 1, 1, .inr (.inl f'))) :: fmL Tm (g2, G.2) M2')) (cu + 1) (su + 6)) : zEv p l e room_1 s m #[.ref b] below meth c G (fun q => s.heap.size ≤ q) 8 (lw_Z below #[.ref b] s) 1891 [some (.ref b), some (.ref (g 0)), some (.ref (g2 0)), some (.ref o), some (.int i), none, none, none] [] (fmL Tx (g, G.2) M ++ ((o, .inl (G.2.2.1 1, 1, .inr (.inl f))) :: fmL Tm (g2, G.2) M2)) cu su := by
  have h0 := hS M M2 hI
  refine z_aloadn C.1 (pc := 1891) (n := 1) 1 rfl rfl (fm_dec dtLa_39 5 rfl) ?_
  refine z_callX C.1 (T := Tx) (g := g) (M := M) (rest := (o, .inl (G.2.2.1 1, 1, .inr (.inl f))) :: fmL Tm (g2, G.2) M2) (k := 0) (ci := 10) (d' := 250) (pc := 1892) (As := []) (st := []) cvL_277 (by decide) rfl rfl rfl (by decide) (rm_fr (by decide)) (rm_lo (by decide) (by decide)) (rm_c hcu) (rm_s hsu) (fm_dec dtLa_39 6 rfl) ?_
  refine fmGood.imp (pvGood.fm C.2.2.2.2.2 (by decide) (by decide +kernel) h0) (fun o9 M1 h9 => ?_)
  obtain ⟨o', rfl, h8, h2⟩ := h9
  rcases h8 with ⟨v, rfl⟩ | ⟨h8, -⟩ | ⟨h8, -⟩
  · refine z_then1 ?_
    refine z_pop C.1 (pc := 1895) rfl (fm_dec dtLa_39 7 rfl) ?_
    refine z_aloadn C.1 (pc := 1896) (n := 2) 2 rfl rfl (fm_dec dtLa_39 8 rfl) ?_
    have hcw := hcu
    have hsw := hsu
    refine z_perm (ws := (fmL Tx (g, G.2) M1 ++ ((o, .inl (G.2.2.1 1, 1, .inr (.inl f))) :: fmL Tm (g2, G.2) M2))) (wpermW _ _ _) ?_
    refine la_ref C (pc := 1897) (As := []) (st := []) cvL_280 (by decide +kernel) rfl rfl (Nat.le_of_ble_eq_true rfl) (by decide) hcw hsw (fm_dec dtLa_39 9 rfl) rfl h2 (fun r2 M3 h3 => ?_)
    obtain ⟨⟨v2, rfl⟩, hI3⟩ := h3
    refine z_then1 ?_
    refine z_pop C.1 (pc := 1900) rfl (fm_dec dtLa_39 10 rfl) ?_
    refine z_goto C.1 (pc := 1901) 1967 (by decide) (fm_dec dtLa_39 11 rfl) ?_
    refine z_more (Nat.le_succ _) (Nat.le_add_right _ 6) ?_
    exact z_perm (wpermB _ _ _) (la_fgt (kk M1 f M3 hI3))
  · cases h8
  · cases h8
set_option maxRecDepth 20000 in
theorem la_c44 {p : Program} {l : Launch} {e : Env} {s : State} {m : MethodId} {below : List Frame} {meth : Method} {c : Code} {G : fmG} {b n : Nat} {xs : Nat → Int32} {I : fmM → fmM → Prop} (hS : laS_restore I) (C : laC p l s m meth c G b n xs) {g g2 : Nat → Nat} {M M2 : fmM} {f : Nat → Int64} {o t : Nat} {i : Int32} {cu su : Nat} (hi : laI n i t) (hcu : cu + 1 ≤ 601024) (hsu : su + 6 ≤ 7293034) (hcu1 : cu + 1 + 1 ≤ 601024) (hsu1 : su + 6 + 6 ≤ 7293034) (hI : I M M2) (kk : ∀ (M' : fmM) (f' : Nat → Int64) (M2' : fmM), I M' M2' → zEv p l e room_1 s m #[.ref b] below meth c G (fun q => s.heap.size ≤ q) 8 (lw_Z below #[.ref b] s) 1967 [some (.ref b), some (.ref (g 0)), some (.ref (g2 0)), some (.ref o), some (.int i), none, none, none] [] (fmL Tx (g, G.2) M' ++ ((o, .inl (G.2.2.1 1, 1, .inr (.inl f'))) :: fmL Tm (g2, G.2) M2')) (cu + 1) (su + 6)) : zEv p l e room_1 s m #[.ref b] below meth c G (fun q => s.heap.size ≤ q) 8 (lw_Z below #[.ref b] s) 1904 [some (.ref b), some (.ref (g 0)), some (.ref (g2 0)), some (.ref o), some (.int i), none, none, none] [] (fmL Tx (g, G.2) M ++ ((o, .inl (G.2.2.1 1, 1, .inr (.inl f))) :: fmL Tm (g2, G.2) M2)) cu su := by
  have h0 := hS M M2 hI
  refine z_aloadn C.1 (pc := 1904) (n := 1) 1 rfl rfl (fm_dec dtLa_39 12 rfl) ?_
  refine z_callX C.1 (T := Tx) (g := g) (M := M) (rest := (o, .inl (G.2.2.1 1, 1, .inr (.inl f))) :: fmL Tm (g2, G.2) M2) (k := 0) (ci := 10) (d' := 250) (pc := 1905) (As := []) (st := []) cvL_281 (by decide) rfl rfl rfl (by decide) (rm_fr (by decide)) (rm_lo (by decide) (by decide)) (rm_c hcu) (rm_s hsu) (fm_dec dtLa_39 13 rfl) ?_
  refine fmGood.imp (pvGood.fm C.2.2.2.2.2 (by decide) (by decide +kernel) h0) (fun o9 M1 h9 => ?_)
  obtain ⟨o', rfl, h8, h2⟩ := h9
  rcases h8 with ⟨v, rfl⟩ | ⟨h8, -⟩ | ⟨h8, -⟩
  · refine z_then1 ?_
    refine z_pop C.1 (pc := 1908) rfl (fm_dec dtLa_39 14 rfl) ?_
    refine z_aloadn C.1 (pc := 1909) (n := 2) 2 rfl rfl (fm_dec dtLa_39 15 rfl) ?_
    have hcw := hcu
    have hsw := hsu
    refine z_perm (ws := (fmL Tx (g, G.2) M1 ++ ((o, .inl (G.2.2.1 1, 1, .inr (.inl f))) :: fmL Tm (g2, G.2) M2))) (wpermW _ _ _) ?_
    refine la_ref C (pc := 1910) (As := []) (st := []) cvL_284 (by decide +kernel) rfl rfl (Nat.le_of_ble_eq_true rfl) (by decide) hcw hsw (fm_dec dtLa_39 16 rfl) rfl h2 (fun r2 M3 h3 => ?_)
    obtain ⟨⟨v2, rfl⟩, hI3⟩ := h3
    refine z_then1 ?_
    refine z_pop C.1 (pc := 1913) rfl (fm_dec dtLa_39 17 rfl) ?_
    refine z_goto C.1 (pc := 1914) 1967 (by decide) (fm_dec dtLa_39 18 rfl) ?_
    refine z_more (Nat.le_succ _) (Nat.le_add_right _ 6) ?_
    exact z_perm (wpermB _ _ _) (la_fgt (kk M1 f M3 hI3))
  · cases h8
  · cases h8
set_option maxRecDepth 20000 in
theorem la_c45 {p : Program} {l : Launch} {e : Env} {s : State} {m : MethodId} {below : List Frame} {meth : Method} {c : Code} {G : fmG} {b n : Nat} {xs : Nat → Int32} {I : fmM → fmM → Prop} (hS : laS_status I) (C : laC p l s m meth c G b n xs) {g g2 : Nat → Nat} {M M2 : fmM} {f : Nat → Int64} {o t : Nat} {i : Int32} {cu su : Nat} (hi : laI n i t) (hcu : cu + 1 ≤ 601024) (hsu : su + 6 ≤ 7293034) (hcu1 : cu + 1 + 1 ≤ 601024) (hsu1 : su + 6 + 6 ≤ 7293034) (hI : I M M2) (kk : ∀ (M' : fmM) (f' : Nat → Int64) (M2' : fmM), I M' M2' → zEv p l e room_1 s m #[.ref b] below meth c G (fun q => s.heap.size ≤ q) 8 (lw_Z below #[.ref b] s) 1967 [some (.ref b), some (.ref (g 0)), some (.ref (g2 0)), some (.ref o), some (.int i), none, none, none] [] (fmL Tx (g, G.2) M' ++ ((o, .inl (G.2.2.1 1, 1, .inr (.inl f'))) :: fmL Tm (g2, G.2) M2')) (cu + 1) (su + 6)) : zEv p l e room_1 s m #[.ref b] below meth c G (fun q => s.heap.size ≤ q) 8 (lw_Z below #[.ref b] s) 1917 [some (.ref b), some (.ref (g 0)), some (.ref (g2 0)), some (.ref o), some (.int i), none, none, none] [] (fmL Tx (g, G.2) M ++ ((o, .inl (G.2.2.1 1, 1, .inr (.inl f))) :: fmL Tm (g2, G.2) M2)) cu su := by
  have h0 := hS M M2 (xs (t + 1)) hI
  refine z_aloadn C.1 (pc := 1917) (n := 1) 1 rfl rfl (fm_dec dtLa_39 19 rfl) ?_
  refine la_arg C (pc := 1918) (v := 1) (t + 1) rfl rfl (hi 1 (by decide)) (by decide) (fm_dec dtLa_39 20 rfl) (fm_dec dtLa_39 21 rfl) (fm_dec dtLa_39 22 rfl) (fm_dec dtLa_39 23 rfl) (fm_dec dtLa_39 24 rfl) ?_
  refine z_callX C.1 (T := Tx) (g := g) (M := M) (rest := (o, .inl (G.2.2.1 1, 1, .inr (.inl f))) :: fmL Tm (g2, G.2) M2) (k := 0) (ci := 10) (d' := 250) (pc := 1924) (As := [.int (xs (t + 1))]) (st := []) cvL_285 (by decide) rfl rfl rfl (by decide) (rm_fr (by decide)) (rm_lo (by decide) (by decide)) (rm_c hcu) (rm_s hsu) (fm_dec dtLa_39 25 rfl) ?_
  refine fmGood.imp (pvGood.fm C.2.2.2.2.2 (by decide) (by decide +kernel) h0) (fun o9 M1 h9 => ?_)
  obtain ⟨o', rfl, h8, h2⟩ := h9
  rcases h8 with ⟨v, rfl⟩ | ⟨h8, -⟩ | ⟨h8, -⟩
  · refine z_then1 ?_
    refine z_pop C.1 (pc := 1927) rfl (fm_dec dtLa_39 26 rfl) ?_
    refine z_aloadn C.1 (pc := 1928) (n := 2) 2 rfl rfl (fm_dec dtLa_39 27 rfl) ?_
    refine la_arg C (pc := 1929) (v := 1) (t + 1) rfl rfl (hi 1 (by decide)) (by decide) (fm_dec dtLa_39 28 rfl) (fm_dec dtLa_39 29 rfl) (fm_dec dtLa_40 0 rfl) (fm_dec dtLa_40 1 rfl) (fm_dec dtLa_40 2 rfl) ?_
    have hcw := hcu
    have hsw := hsu
    refine z_perm (ws := (fmL Tx (g, G.2) M1 ++ ((o, .inl (G.2.2.1 1, 1, .inr (.inl f))) :: fmL Tm (g2, G.2) M2))) (wpermW _ _ _) ?_
    refine la_ref C (pc := 1935) (As := [.int (xs (t + 1))]) (st := []) cvL_288 (by decide +kernel) rfl rfl (Nat.le_of_ble_eq_true rfl) (by decide) hcw hsw (fm_dec dtLa_40 3 rfl) rfl h2 (fun r2 M3 h3 => ?_)
    obtain ⟨⟨v2, rfl⟩, hI3⟩ := h3
    refine z_then1 ?_
    refine z_pop C.1 (pc := 1938) rfl (fm_dec dtLa_40 4 rfl) ?_
    refine z_goto C.1 (pc := 1939) 1967 (by decide) (fm_dec dtLa_40 5 rfl) ?_
    refine z_more (Nat.le_succ _) (Nat.le_add_right _ 6) ?_
    exact z_perm (wpermB _ _ _) (la_fgt (kk M1 f M3 hI3))
  · cases h8
  · cases h8
set_option maxRecDepth 20000 in
theorem la_c46 {p : Program} {l : Launch} {e : Env} {s : State} {m : MethodId} {below : List Frame} {meth : Method} {c : Code} {G : fmG} {b n : Nat} {xs : Nat → Int32} {I : fmM → fmM → Prop} (hS : laS_count I) (C : laC p l s m meth c G b n xs) {g g2 : Nat → Nat} {M M2 : fmM} {f : Nat → Int64} {o t : Nat} {i : Int32} {cu su : Nat} (hi : laI n i t) (hcu : cu + 1 ≤ 601024) (hsu : su + 6 ≤ 7293034) (hcu1 : cu + 1 + 1 ≤ 601024) (hsu1 : su + 6 + 6 ≤ 7293034) (hI : I M M2) (kk : ∀ (M' : fmM) (f' : Nat → Int64) (M2' : fmM), I M' M2' → zEv p l e room_1 s m #[.ref b] below meth c G (fun q => s.heap.size ≤ q) 8 (lw_Z below #[.ref b] s) 1967 [some (.ref b), some (.ref (g 0)), some (.ref (g2 0)), some (.ref o), some (.int i), none, none, none] [] (fmL Tx (g, G.2) M' ++ ((o, .inl (G.2.2.1 1, 1, .inr (.inl f'))) :: fmL Tm (g2, G.2) M2')) (cu + 1) (su + 6)) : zEv p l e room_1 s m #[.ref b] below meth c G (fun q => s.heap.size ≤ q) 8 (lw_Z below #[.ref b] s) 1942 [some (.ref b), some (.ref (g 0)), some (.ref (g2 0)), some (.ref o), some (.int i), none, none, none] [] (fmL Tx (g, G.2) M ++ ((o, .inl (G.2.2.1 1, 1, .inr (.inl f))) :: fmL Tm (g2, G.2) M2)) cu su := by
  have h0 := hS M M2 (xs (t + 1)) hI
  refine z_aloadn C.1 (pc := 1942) (n := 1) 1 rfl rfl (fm_dec dtLa_40 6 rfl) ?_
  refine la_arg C (pc := 1943) (v := 1) (t + 1) rfl rfl (hi 1 (by decide)) (by decide) (fm_dec dtLa_40 7 rfl) (fm_dec dtLa_40 8 rfl) (fm_dec dtLa_40 9 rfl) (fm_dec dtLa_40 10 rfl) (fm_dec dtLa_40 11 rfl) ?_
  refine z_callX C.1 (T := Tx) (g := g) (M := M) (rest := (o, .inl (G.2.2.1 1, 1, .inr (.inl f))) :: fmL Tm (g2, G.2) M2) (k := 0) (ci := 10) (d' := 250) (pc := 1949) (As := [.int (xs (t + 1))]) (st := []) cvL_289 (by decide) rfl rfl rfl (by decide) (rm_fr (by decide)) (rm_lo (by decide) (by decide)) (rm_c hcu) (rm_s hsu) (fm_dec dtLa_40 12 rfl) ?_
  refine fmGood.imp (pvGood.fm C.2.2.2.2.2 (by decide) (by decide +kernel) h0) (fun o9 M1 h9 => ?_)
  obtain ⟨o', rfl, h8, h2⟩ := h9
  rcases h8 with ⟨v, rfl⟩ | ⟨h8, -⟩ | ⟨h8, -⟩
  · refine z_then1 ?_
    refine z_pop C.1 (pc := 1952) rfl (fm_dec dtLa_40 13 rfl) ?_
    refine z_aloadn C.1 (pc := 1953) (n := 2) 2 rfl rfl (fm_dec dtLa_40 14 rfl) ?_
    refine la_arg C (pc := 1954) (v := 1) (t + 1) rfl rfl (hi 1 (by decide)) (by decide) (fm_dec dtLa_40 15 rfl) (fm_dec dtLa_40 16 rfl) (fm_dec dtLa_40 17 rfl) (fm_dec dtLa_40 18 rfl) (fm_dec dtLa_40 19 rfl) ?_
    have hcw := hcu
    have hsw := hsu
    refine z_perm (ws := (fmL Tx (g, G.2) M1 ++ ((o, .inl (G.2.2.1 1, 1, .inr (.inl f))) :: fmL Tm (g2, G.2) M2))) (wpermW _ _ _) ?_
    refine la_ref C (pc := 1960) (As := [.int (xs (t + 1))]) (st := []) cvL_292 (by decide +kernel) rfl rfl (Nat.le_of_ble_eq_true rfl) (by decide) hcw hsw (fm_dec dtLa_40 20 rfl) rfl h2 (fun r2 M3 h3 => ?_)
    obtain ⟨⟨v2, rfl⟩, hI3⟩ := h3
    refine z_then1 ?_
    refine z_pop C.1 (pc := 1963) rfl (fm_dec dtLa_40 21 rfl) ?_
    refine z_goto C.1 (pc := 1964) 1967 (by decide) (fm_dec dtLa_40 22 rfl) ?_
    refine z_more (Nat.le_succ _) (Nat.le_add_right _ 6) ?_
    exact z_perm (wpermB _ _ _) (la_fgt (kk M1 f M3 hI3))
  · cases h8
  · cases h8
