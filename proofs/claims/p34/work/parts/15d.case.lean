set_option maxRecDepth 20000 in
theorem la_c32 {p : Program} {l : Launch} {e : Env} {s : State} {m : MethodId} {below : List Frame} {meth : Method} {c : Code} {G : fmG} {b n : Nat} {xs : Nat → Int32} {I : fmM → fmM → Prop} (hS : laS_whose I) (C : laC p l s m meth c G b n xs) {g g2 : Nat → Nat} {M M2 : fmM} {f : Nat → Int64} {o t : Nat} {i : Int32} {cu su : Nat} (hi : laI n i t) (hcu : cu + 1 ≤ 601024) (hsu : su + 6 ≤ 7293034) (hcu1 : cu + 1 + 1 ≤ 601024) (hsu1 : su + 6 + 6 ≤ 7293034) (hI : I M M2) (kk : ∀ (M' : fmM) (f' : Nat → Int64) (M2' : fmM), I M' M2' → zEv p l e room_1 s m #[.ref b] below meth c G (fun q => s.heap.size ≤ q) 8 (lw_Z below #[.ref b] s) 1940 [some (.ref b), some (.ref (g 0)), some (.ref (g2 0)), some (.ref o), some (.int i), none, none, none] [] (fmL Tx (g, G.2) M' ++ ((o, .inl (G.2.2.1 1, 1, .inr (.inl f'))) :: fmL Tm (g2, G.2) M2')) (cu + 1) (su + 6)) : zEv p l e room_1 s m #[.ref b] below meth c G (fun q => s.heap.size ≤ q) 8 (lw_Z below #[.ref b] s) 1445 [some (.ref b), some (.ref (g 0)), some (.ref (g2 0)), some (.ref o), some (.int i), none, none, none] [] (fmL Tx (g, G.2) M ++ ((o, .inl (G.2.2.1 1, 1, .inr (.inl f))) :: fmL Tm (g2, G.2) M2)) cu su := by
  have h0 := hS M M2 hI
  refine z_aloadn C.1 (pc := 1445) (n := 1) 1 rfl rfl (fm_dec dtLa_28 24 rfl) ?_
  refine z_callX C.1 (T := Tx) (g := g) (M := M) (rest := (o, .inl (G.2.2.1 1, 1, .inr (.inl f))) :: fmL Tm (g2, G.2) M2) (k := 0) (ci := 10) (d' := 250) (pc := 1446) (As := []) (st := []) cvL_238 (by decide) rfl rfl rfl (by decide) (rm_fr (by decide)) (rm_lo (by decide) (by decide)) (rm_c hcu) (rm_s hsu) (fm_dec dtLa_28 25 rfl) ?_
  refine fmGood.imp (pvGood.fm C.2.2.2.2.2 (by decide) (by decide +kernel) h0) (fun o9 M1 h9 => ?_)
  obtain ⟨o', rfl, h8, h2⟩ := h9
  rcases h8 with ⟨v, rfl⟩ | ⟨h8, -⟩ | ⟨h8, -⟩
  · refine z_then1 ?_
    refine z_aloadn C.1 (pc := 1449) (n := 2) 2 rfl rfl (fm_dec dtLa_28 26 rfl) ?_
    have hcw := hcu
    have hsw := hsu
    refine z_perm (ws := (fmL Tx (g, G.2) M1 ++ ((o, .inl (G.2.2.1 1, 1, .inr (.inl f))) :: fmL Tm (g2, G.2) M2))) (wpermW _ _ _) ?_
    refine la_ref C (pc := 1450) (As := []) (st := [.int v]) cvL_241 (by decide +kernel) rfl rfl (Nat.le_of_ble_eq_true rfl) (by decide) hcw hsw (fm_dec dtLa_28 27 rfl) rfl h2 (fun r2 M3 h3 => ?_)
    obtain ⟨⟨v2, rfl⟩, e2, hI3⟩ := h3
    refine z_then1 ?_
    have e3 : v2 = v := by cases e2; rfl
    subst e3
    refine z_icmp_eq C.1 (pc := 1453) 1940 (by decide) (fm_dec dtLa_28 28 rfl) (fun _ => ?_) (fun h => absurd rfl h)
    refine z_more (Nat.le_succ _) (Nat.le_add_right _ 6) ?_
    exact z_perm (wpermB _ _ _) (la_fgt (kk M1 f M3 hI3))
  · cases h8
  · cases h8
set_option maxRecDepth 20000 in
theorem la_c33 {p : Program} {l : Launch} {e : Env} {s : State} {m : MethodId} {below : List Frame} {meth : Method} {c : Code} {G : fmG} {b n : Nat} {xs : Nat → Int32} {I : fmM → fmM → Prop} (hS : laS_ahead I) (C : laC p l s m meth c G b n xs) {g g2 : Nat → Nat} {M M2 : fmM} {f : Nat → Int64} {o t : Nat} {i : Int32} {cu su : Nat} (hi : laI n i t) (hcu : cu + 1 ≤ 601024) (hsu : su + 6 ≤ 7293034) (hcu1 : cu + 1 + 1 ≤ 601024) (hsu1 : su + 6 + 6 ≤ 7293034) (hI : I M M2) (kk : ∀ (M' : fmM) (f' : Nat → Int64) (M2' : fmM), I M' M2' → zEv p l e room_1 s m #[.ref b] below meth c G (fun q => s.heap.size ≤ q) 8 (lw_Z below #[.ref b] s) 1940 [some (.ref b), some (.ref (g 0)), some (.ref (g2 0)), some (.ref o), some (.int i), none, none, none] [] (fmL Tx (g, G.2) M' ++ ((o, .inl (G.2.2.1 1, 1, .inr (.inl f'))) :: fmL Tm (g2, G.2) M2')) (cu + 1) (su + 6)) : zEv p l e room_1 s m #[.ref b] below meth c G (fun q => s.heap.size ≤ q) 8 (lw_Z below #[.ref b] s) 1458 [some (.ref b), some (.ref (g 0)), some (.ref (g2 0)), some (.ref o), some (.int i), none, none, none] [] (fmL Tx (g, G.2) M ++ ((o, .inl (G.2.2.1 1, 1, .inr (.inl f))) :: fmL Tm (g2, G.2) M2)) cu su := by
  have h0 := hS M M2 (xs (t + 1)) (xs (t + 2)) hI
  refine z_aloadn C.1 (pc := 1458) (n := 1) 1 rfl rfl (fm_dec dtLa_29 1 rfl) ?_
  refine la_arg C (pc := 1459) (v := 1) (t + 1) rfl rfl (hi 1 (by decide)) (by decide) (fm_dec dtLa_29 2 rfl) (fm_dec dtLa_29 3 rfl) (fm_dec dtLa_29 4 rfl) (fm_dec dtLa_29 5 rfl) (fm_dec dtLa_29 6 rfl) ?_
  refine la_arg C (pc := 1465) (v := 2) (t + 2) rfl rfl (hi 2 (by decide)) (by decide) (fm_dec dtLa_29 7 rfl) (fm_dec dtLa_29 8 rfl) (fm_dec dtLa_29 9 rfl) (fm_dec dtLa_29 10 rfl) (fm_dec dtLa_29 11 rfl) ?_
  refine z_aloadn C.1 (pc := 1471) (n := 3) 3 rfl rfl (fm_dec dtLa_29 12 rfl) ?_
  have hw : pvGood Tx 250 qX10_ahead [.ref 0, .int (xs (t + 1)), .int (xs (t + 2))] M (wJ f (fun (r : Int32) (u : fmM × (Nat → Int64)) => pvGood Tm 250 qX11_ahead [.ref 0, .int (xs (t + 1)), .int (xs (t + 2))] M2 (fun r2 M2' => tJ r2 ∧ I u.1 M2')) (fun E M' => (E = fmIAE ∧ (fun (r : Int32) (u : fmM × (Nat → Int64)) => pvGood Tm 250 qX11_ahead [.ref 0, .int (xs (t + 1)), .int (xs (t + 2))] M2 (fun r2 M2' => tJ r2 ∧ I u.1 M2')) 1 (M', f)))) := h0.imp (fun r9 M9 h9 => by
    obtain ⟨h8, h2⟩ := h9
    rcases h8 with ⟨v, rfl⟩ | ⟨h6, rfl⟩ | ⟨h6, rfl⟩
    · exact h2
    · exact ⟨rfl, h2⟩
    · exact absurd h6 (by decide))
  refine z_callW C.1 (y' := qL_ahead) (hh := [(0, 9, 12, 13)]) (W0 := WX G g o (fmL Tm (g2, G.2) M2) (M, f)) (WW := WX G g o (fmL Tm (g2, G.2) M2)) (Q := fun (r : Int32) (u : fmM × (Nat → Int64)) => pvGood Tm 250 qX11_ahead [.ref 0, .int (xs (t + 1)), .int (xs (t + 2))] M2 (fun r2 M2' => tJ r2 ∧ I u.1 M2')) (As := [.ref (g 0), .int (xs (t + 1)), .int (xs (t + 2)), .ref o]) (st := []) (pc := 1472) (fm_in 1204 (by decide +kernel) rfl) nst_L_ahead niL nw_L_ahead nd_L_ahead rfl rfl (by decide) (show 311 ≤ room_1.frames by decide) (show 8 + (5 + 11) + 18200 ≤ room_1.locals by decide) (rm_c hcu) (rm_s hsu) (fm_dec dtLa_29 13 rfl) (w_ahead C.2.2.2.2.2 hw) (fun r u hQ => ?_)
  obtain ⟨M1, f1⟩ := u
  refine z_istore C.1 (pc := 1475) (i := 5) (by decide) rfl (fm_dec dtLa_29 14 rfl) ?_
  dsimp only [List.set_cons_zero, List.set_cons_succ]
  refine z_aloadn C.1 (pc := 1477) (n := 2) 2 rfl rfl (fm_dec dtLa_29 15 rfl) ?_
  refine la_arg C (pc := 1478) (v := 1) (t + 1) rfl rfl (hi 1 (by decide)) (by decide) (fm_dec dtLa_29 16 rfl) (fm_dec dtLa_29 17 rfl) (fm_dec dtLa_29 18 rfl) (fm_dec dtLa_29 19 rfl) (fm_dec dtLa_29 20 rfl) ?_
  refine la_arg C (pc := 1484) (v := 2) (t + 2) rfl rfl (hi 2 (by decide)) (by decide) (fm_dec dtLa_29 21 rfl) (fm_dec dtLa_29 22 rfl) (fm_dec dtLa_29 23 rfl) (fm_dec dtLa_29 24 rfl) (fm_dec dtLa_29 25 rfl) ?_
  have hcw := hcu1
  have hsw := hsu1
  refine z_perm (ws := (fmL Tx (g, G.2) M1 ++ ((o, .inl (G.2.2.1 1, 1, .inr (.inl f1))) :: fmL Tm (g2, G.2) M2))) (wpermW _ _ _) ?_
  refine la_ref C (pc := 1490) (As := [.int (xs (t + 1)), .int (xs (t + 2))]) (st := []) cvL_244 (by decide +kernel) rfl rfl (Nat.le_of_ble_eq_true rfl) (by decide) hcw hsw (fm_dec dtLa_29 26 rfl) rfl hQ (fun r2 M3 h3 => ?_)
  obtain ⟨⟨v2, rfl⟩, hI3⟩ := h3
  refine z_then1 ?_
  refine z_lstore C.1 (pc := 1493) (i := 6) (by decide) rfl (fm_dec dtLa_29 27 rfl) ?_
  dsimp only [List.set_cons_zero, List.set_cons_succ]
  refine z_goto C.1 (pc := 1495) 1940 (by decide) (fm_dec dtLa_29 28 rfl) ?_
  exact z_perm (wpermB _ _ _) (la_fgt (kk M1 f1 M3 hI3))
set_option maxRecDepth 20000 in
theorem la_c34 {p : Program} {l : Launch} {e : Env} {s : State} {m : MethodId} {below : List Frame} {meth : Method} {c : Code} {G : fmG} {b n : Nat} {xs : Nat → Int32} {I : fmM → fmM → Prop} (hS : laS_lives I) (C : laC p l s m meth c G b n xs) {g g2 : Nat → Nat} {M M2 : fmM} {f : Nat → Int64} {o t : Nat} {i : Int32} {cu su : Nat} (hi : laI n i t) (hcu : cu + 1 ≤ 601024) (hsu : su + 6 ≤ 7293034) (hcu1 : cu + 1 + 1 ≤ 601024) (hsu1 : su + 6 + 6 ≤ 7293034) (hI : I M M2) (kk : ∀ (M' : fmM) (f' : Nat → Int64) (M2' : fmM), I M' M2' → zEv p l e room_1 s m #[.ref b] below meth c G (fun q => s.heap.size ≤ q) 8 (lw_Z below #[.ref b] s) 1940 [some (.ref b), some (.ref (g 0)), some (.ref (g2 0)), some (.ref o), some (.int i), none, none, none] [] (fmL Tx (g, G.2) M' ++ ((o, .inl (G.2.2.1 1, 1, .inr (.inl f'))) :: fmL Tm (g2, G.2) M2')) (cu + 1) (su + 6)) : zEv p l e room_1 s m #[.ref b] below meth c G (fun q => s.heap.size ≤ q) 8 (lw_Z below #[.ref b] s) 1498 [some (.ref b), some (.ref (g 0)), some (.ref (g2 0)), some (.ref o), some (.int i), none, none, none] [] (fmL Tx (g, G.2) M ++ ((o, .inl (G.2.2.1 1, 1, .inr (.inl f))) :: fmL Tm (g2, G.2) M2)) cu su := by
  have h0 := hS M M2 (xs (t + 1)) (xs (t + 2)) (xs (t + 3)) hI
  refine z_aloadn C.1 (pc := 1498) (n := 1) 1 rfl rfl (fm_dec dtLa_29 29 rfl) ?_
  refine la_arg C (pc := 1499) (v := 1) (t + 1) rfl rfl (hi 1 (by decide)) (by decide) (fm_dec dtLa_30 0 rfl) (fm_dec dtLa_30 1 rfl) (fm_dec dtLa_30 2 rfl) (fm_dec dtLa_30 3 rfl) (fm_dec dtLa_30 4 rfl) ?_
  refine la_arg C (pc := 1505) (v := 2) (t + 2) rfl rfl (hi 2 (by decide)) (by decide) (fm_dec dtLa_30 5 rfl) (fm_dec dtLa_30 6 rfl) (fm_dec dtLa_30 7 rfl) (fm_dec dtLa_30 8 rfl) (fm_dec dtLa_30 9 rfl) ?_
  refine la_arg C (pc := 1511) (v := 3) (t + 3) rfl rfl (hi 3 (by decide)) (by decide) (fm_dec dtLa_30 10 rfl) (fm_dec dtLa_30 11 rfl) (fm_dec dtLa_30 12 rfl) (fm_dec dtLa_30 13 rfl) (fm_dec dtLa_30 14 rfl) ?_
  refine z_aloadn C.1 (pc := 1517) (n := 3) 3 rfl rfl (fm_dec dtLa_30 15 rfl) ?_
  have hw : pvGood Tx 250 qX10_lives [.ref 0, .int (xs (t + 1)), .int (xs (t + 2)), .int (xs (t + 3))] M (wJ f (fun (r : Int32) (u : fmM × (Nat → Int64)) => pvGood Tm 250 qX11_lives [.ref 0, .int (xs (t + 1)), .int (xs (t + 2)), .int (xs (t + 3))] M2 (fun r2 M2' => tJ r2 ∧ I u.1 M2')) (fun E M' => (E = fmNSE ∧ (fun (r : Int32) (u : fmM × (Nat → Int64)) => pvGood Tm 250 qX11_lives [.ref 0, .int (xs (t + 1)), .int (xs (t + 2)), .int (xs (t + 3))] M2 (fun r2 M2' => tJ r2 ∧ I u.1 M2')) 1 (M', f)) ∨ (E = fmIAE ∧ (fun (r : Int32) (u : fmM × (Nat → Int64)) => pvGood Tm 250 qX11_lives [.ref 0, .int (xs (t + 1)), .int (xs (t + 2)), .int (xs (t + 3))] M2 (fun r2 M2' => tJ r2 ∧ I u.1 M2')) 2 (M', f)))) := h0.imp (fun r9 M9 h9 => by
    obtain ⟨h8, h2⟩ := h9
    rcases h8 with ⟨v, rfl⟩ | ⟨-, rfl⟩ | ⟨-, rfl⟩
    · exact h2
    · exact Or.inr ⟨rfl, h2⟩
    · exact Or.inl ⟨rfl, h2⟩)
  refine z_callW C.1 (y' := qL_lives) (hh := [(0, 11, 14, 31), (0, 11, 18, 13)]) (W0 := WX G g o (fmL Tm (g2, G.2) M2) (M, f)) (WW := WX G g o (fmL Tm (g2, G.2) M2)) (Q := fun (r : Int32) (u : fmM × (Nat → Int64)) => pvGood Tm 250 qX11_lives [.ref 0, .int (xs (t + 1)), .int (xs (t + 2)), .int (xs (t + 3))] M2 (fun r2 M2' => tJ r2 ∧ I u.1 M2')) (As := [.ref (g 0), .int (xs (t + 1)), .int (xs (t + 2)), .int (xs (t + 3)), .ref o]) (st := []) (pc := 1518) (fm_in 1211 (by decide +kernel) rfl) nst_L_lives niL nw_L_lives nd_L_lives rfl rfl (by decide) (show 311 ≤ room_1.frames by decide) (show 8 + (6 + 11) + 18200 ≤ room_1.locals by decide) (rm_c hcu) (rm_s hsu) (fm_dec dtLa_30 16 rfl) (w_lives C.2.2.2.2.2 hw) (fun r u hQ => ?_)
  obtain ⟨M1, f1⟩ := u
  refine z_istore C.1 (pc := 1521) (i := 5) (by decide) rfl (fm_dec dtLa_30 17 rfl) ?_
  dsimp only [List.set_cons_zero, List.set_cons_succ]
  refine z_aloadn C.1 (pc := 1523) (n := 2) 2 rfl rfl (fm_dec dtLa_30 18 rfl) ?_
  refine la_arg C (pc := 1524) (v := 1) (t + 1) rfl rfl (hi 1 (by decide)) (by decide) (fm_dec dtLa_30 19 rfl) (fm_dec dtLa_30 20 rfl) (fm_dec dtLa_30 21 rfl) (fm_dec dtLa_30 22 rfl) (fm_dec dtLa_30 23 rfl) ?_
  refine la_arg C (pc := 1530) (v := 2) (t + 2) rfl rfl (hi 2 (by decide)) (by decide) (fm_dec dtLa_30 24 rfl) (fm_dec dtLa_30 25 rfl) (fm_dec dtLa_30 26 rfl) (fm_dec dtLa_30 27 rfl) (fm_dec dtLa_30 28 rfl) ?_
  refine la_arg C (pc := 1536) (v := 3) (t + 3) rfl rfl (hi 3 (by decide)) (by decide) (fm_dec dtLa_30 29 rfl) (fm_dec dtLa_31 0 rfl) (fm_dec dtLa_31 1 rfl) (fm_dec dtLa_31 2 rfl) (fm_dec dtLa_31 3 rfl) ?_
  have hcw := hcu1
  have hsw := hsu1
  refine z_perm (ws := (fmL Tx (g, G.2) M1 ++ ((o, .inl (G.2.2.1 1, 1, .inr (.inl f1))) :: fmL Tm (g2, G.2) M2))) (wpermW _ _ _) ?_
  refine la_ref C (pc := 1542) (As := [.int (xs (t + 1)), .int (xs (t + 2)), .int (xs (t + 3))]) (st := []) cvL_247 (by decide +kernel) rfl rfl (Nat.le_of_ble_eq_true rfl) (by decide) hcw hsw (fm_dec dtLa_31 4 rfl) rfl hQ (fun r2 M3 h3 => ?_)
  obtain ⟨⟨v2, rfl⟩, hI3⟩ := h3
  refine z_then1 ?_
  refine z_lstore C.1 (pc := 1545) (i := 6) (by decide) rfl (fm_dec dtLa_31 5 rfl) ?_
  dsimp only [List.set_cons_zero, List.set_cons_succ]
  refine z_goto C.1 (pc := 1547) 1940 (by decide) (fm_dec dtLa_31 6 rfl) ?_
  exact z_perm (wpermB _ _ _) (la_fgt (kk M1 f1 M3 hI3))
set_option maxRecDepth 20000 in
theorem la_c35 {p : Program} {l : Launch} {e : Env} {s : State} {m : MethodId} {below : List Frame} {meth : Method} {c : Code} {G : fmG} {b n : Nat} {xs : Nat → Int32} {I : fmM → fmM → Prop} (hS : laS_oldest I) (C : laC p l s m meth c G b n xs) {g g2 : Nat → Nat} {M M2 : fmM} {f : Nat → Int64} {o t : Nat} {i : Int32} {cu su : Nat} (hi : laI n i t) (hcu : cu + 1 ≤ 601024) (hsu : su + 6 ≤ 7293034) (hcu1 : cu + 1 + 1 ≤ 601024) (hsu1 : su + 6 + 6 ≤ 7293034) (hI : I M M2) (kk : ∀ (M' : fmM) (f' : Nat → Int64) (M2' : fmM), I M' M2' → zEv p l e room_1 s m #[.ref b] below meth c G (fun q => s.heap.size ≤ q) 8 (lw_Z below #[.ref b] s) 1940 [some (.ref b), some (.ref (g 0)), some (.ref (g2 0)), some (.ref o), some (.int i), none, none, none] [] (fmL Tx (g, G.2) M' ++ ((o, .inl (G.2.2.1 1, 1, .inr (.inl f'))) :: fmL Tm (g2, G.2) M2')) (cu + 1) (su + 6)) : zEv p l e room_1 s m #[.ref b] below meth c G (fun q => s.heap.size ≤ q) 8 (lw_Z below #[.ref b] s) 1550 [some (.ref b), some (.ref (g 0)), some (.ref (g2 0)), some (.ref o), some (.int i), none, none, none] [] (fmL Tx (g, G.2) M ++ ((o, .inl (G.2.2.1 1, 1, .inr (.inl f))) :: fmL Tm (g2, G.2) M2)) cu su := by
  have h0 := hS M M2 hI
  refine z_aloadn C.1 (pc := 1550) (n := 1) 1 rfl rfl (fm_dec dtLa_31 7 rfl) ?_
  refine z_callX C.1 (T := Tx) (g := g) (M := M) (rest := (o, .inl (G.2.2.1 1, 1, .inr (.inl f))) :: fmL Tm (g2, G.2) M2) (k := 0) (ci := 10) (d' := 250) (pc := 1551) (As := []) (st := []) cvL_248 (by decide) rfl rfl rfl (by decide) (rm_fr (by decide)) (rm_lo (by decide) (by decide)) (rm_c hcu) (rm_s hsu) (fm_dec dtLa_31 8 rfl) ?_
  refine fmGood.imp (pvGood.fm C.2.2.2.2.2 (by decide) (by decide +kernel) h0) (fun o9 M1 h9 => ?_)
  obtain ⟨o', rfl, h8, h2⟩ := h9
  rcases h8 with ⟨v, rfl⟩ | ⟨h8, -⟩ | ⟨h8, -⟩
  · refine z_then1 ?_
    refine z_pop C.1 (pc := 1554) rfl (fm_dec dtLa_31 9 rfl) ?_
    refine z_aloadn C.1 (pc := 1555) (n := 2) 2 rfl rfl (fm_dec dtLa_31 10 rfl) ?_
    have hcw := hcu
    have hsw := hsu
    refine z_perm (ws := (fmL Tx (g, G.2) M1 ++ ((o, .inl (G.2.2.1 1, 1, .inr (.inl f))) :: fmL Tm (g2, G.2) M2))) (wpermW _ _ _) ?_
    refine la_ref C (pc := 1556) (As := []) (st := []) cvL_251 (by decide +kernel) rfl rfl (Nat.le_of_ble_eq_true rfl) (by decide) hcw hsw (fm_dec dtLa_31 11 rfl) rfl h2 (fun r2 M3 h3 => ?_)
    obtain ⟨⟨v2, rfl⟩, hI3⟩ := h3
    refine z_then1 ?_
    refine z_pop C.1 (pc := 1559) rfl (fm_dec dtLa_31 12 rfl) ?_
    refine z_goto C.1 (pc := 1560) 1940 (by decide) (fm_dec dtLa_31 13 rfl) ?_
    refine z_more (Nat.le_succ _) (Nat.le_add_right _ 6) ?_
    exact z_perm (wpermB _ _ _) (la_fgt (kk M1 f M3 hI3))
  · cases h8
  · cases h8
set_option maxRecDepth 20000 in
theorem la_c36 {p : Program} {l : Launch} {e : Env} {s : State} {m : MethodId} {below : List Frame} {meth : Method} {c : Code} {G : fmG} {b n : Nat} {xs : Nat → Int32} {I : fmM → fmM → Prop} (hS : laS_chain I) (C : laC p l s m meth c G b n xs) {g g2 : Nat → Nat} {M M2 : fmM} {f : Nat → Int64} {o t : Nat} {i : Int32} {cu su : Nat} (hi : laI n i t) (hcu : cu + 1 ≤ 601024) (hsu : su + 6 ≤ 7293034) (hcu1 : cu + 1 + 1 ≤ 601024) (hsu1 : su + 6 + 6 ≤ 7293034) (hI : I M M2) (kk : ∀ (M' : fmM) (f' : Nat → Int64) (M2' : fmM), I M' M2' → zEv p l e room_1 s m #[.ref b] below meth c G (fun q => s.heap.size ≤ q) 8 (lw_Z below #[.ref b] s) 1940 [some (.ref b), some (.ref (g 0)), some (.ref (g2 0)), some (.ref o), some (.int i), none, none, none] [] (fmL Tx (g, G.2) M' ++ ((o, .inl (G.2.2.1 1, 1, .inr (.inl f'))) :: fmL Tm (g2, G.2) M2')) (cu + 1) (su + 6)) : zEv p l e room_1 s m #[.ref b] below meth c G (fun q => s.heap.size ≤ q) 8 (lw_Z below #[.ref b] s) 1563 [some (.ref b), some (.ref (g 0)), some (.ref (g2 0)), some (.ref o), some (.int i), none, none, none] [] (fmL Tx (g, G.2) M ++ ((o, .inl (G.2.2.1 1, 1, .inr (.inl f))) :: fmL Tm (g2, G.2) M2)) cu su := by
  have h0 := hS M M2 (xs (t + 1)) (xs (t + 2)) hI
  refine z_aloadn C.1 (pc := 1563) (n := 1) 1 rfl rfl (fm_dec dtLa_31 14 rfl) ?_
  refine la_arg C (pc := 1564) (v := 1) (t + 1) rfl rfl (hi 1 (by decide)) (by decide) (fm_dec dtLa_31 15 rfl) (fm_dec dtLa_31 16 rfl) (fm_dec dtLa_31 17 rfl) (fm_dec dtLa_31 18 rfl) (fm_dec dtLa_31 19 rfl) ?_
  refine la_arg C (pc := 1570) (v := 2) (t + 2) rfl rfl (hi 2 (by decide)) (by decide) (fm_dec dtLa_31 20 rfl) (fm_dec dtLa_31 21 rfl) (fm_dec dtLa_31 22 rfl) (fm_dec dtLa_31 23 rfl) (fm_dec dtLa_31 24 rfl) ?_
  refine z_aloadn C.1 (pc := 1576) (n := 3) 3 rfl rfl (fm_dec dtLa_31 25 rfl) ?_
  have hw : pvGood Tx 250 qX10_chain [.ref 0, .int (xs (t + 1)), .int (xs (t + 2))] M (wI f (fun (r : Int32) (u : fmM × (Nat → Int64)) => pvGood Tm 250 qX11_chain [.ref 0, .int (xs (t + 1)), .int (xs (t + 2))] M2 (fun r2 M2' => tI r2 ∧ I u.1 M2')) (fun E M' => (E = fmNSE ∧ (fun (r : Int32) (u : fmM × (Nat → Int64)) => pvGood Tm 250 qX11_chain [.ref 0, .int (xs (t + 1)), .int (xs (t + 2))] M2 (fun r2 M2' => tI r2 ∧ I u.1 M2')) 1 (M', f)) ∨ (E = fmIAE ∧ (fun (r : Int32) (u : fmM × (Nat → Int64)) => pvGood Tm 250 qX11_chain [.ref 0, .int (xs (t + 1)), .int (xs (t + 2))] M2 (fun r2 M2' => tI r2 ∧ I u.1 M2')) 2 (M', f)))) := h0.imp (fun r9 M9 h9 => by
    obtain ⟨h8, h2⟩ := h9
    rcases h8 with ⟨v, rfl⟩ | ⟨-, rfl⟩ | ⟨-, rfl⟩
    · exact h2
    · exact Or.inr ⟨rfl, h2⟩
    · exact Or.inl ⟨rfl, h2⟩)
  refine z_callW C.1 (y' := qL_chain) (hh := [(0, 10, 13, 31), (0, 10, 17, 13)]) (W0 := WX G g o (fmL Tm (g2, G.2) M2) (M, f)) (WW := WX G g o (fmL Tm (g2, G.2) M2)) (Q := fun (r : Int32) (u : fmM × (Nat → Int64)) => pvGood Tm 250 qX11_chain [.ref 0, .int (xs (t + 1)), .int (xs (t + 2))] M2 (fun r2 M2' => tI r2 ∧ I u.1 M2')) (As := [.ref (g 0), .int (xs (t + 1)), .int (xs (t + 2)), .ref o]) (st := []) (pc := 1577) (fm_in 1218 (by decide +kernel) rfl) nst_L_chain niL nw_L_chain nd_L_chain rfl rfl (by decide) (show 311 ≤ room_1.frames by decide) (show 8 + (5 + 11) + 18200 ≤ room_1.locals by decide) (rm_c hcu) (rm_s hsu) (fm_dec dtLa_31 26 rfl) (w_chain C.2.2.2.2.2 hw) (fun r u hQ => ?_)
  obtain ⟨M1, f1⟩ := u
  refine z_istore C.1 (pc := 1580) (i := 5) (by decide) rfl (fm_dec dtLa_31 27 rfl) ?_
  dsimp only [List.set_cons_zero, List.set_cons_succ]
  refine z_aloadn C.1 (pc := 1582) (n := 2) 2 rfl rfl (fm_dec dtLa_31 28 rfl) ?_
  refine la_arg C (pc := 1583) (v := 1) (t + 1) rfl rfl (hi 1 (by decide)) (by decide) (fm_dec dtLa_31 29 rfl) (fm_dec dtLa_32 0 rfl) (fm_dec dtLa_32 1 rfl) (fm_dec dtLa_32 2 rfl) (fm_dec dtLa_32 3 rfl) ?_
  refine la_arg C (pc := 1589) (v := 2) (t + 2) rfl rfl (hi 2 (by decide)) (by decide) (fm_dec dtLa_32 4 rfl) (fm_dec dtLa_32 5 rfl) (fm_dec dtLa_32 6 rfl) (fm_dec dtLa_32 7 rfl) (fm_dec dtLa_32 8 rfl) ?_
  have hcw := hcu1
  have hsw := hsu1
  refine z_perm (ws := (fmL Tx (g, G.2) M1 ++ ((o, .inl (G.2.2.1 1, 1, .inr (.inl f1))) :: fmL Tm (g2, G.2) M2))) (wpermW _ _ _) ?_
  refine la_ref C (pc := 1595) (As := [.int (xs (t + 1)), .int (xs (t + 2))]) (st := []) cvL_254 (by decide +kernel) rfl rfl (Nat.le_of_ble_eq_true rfl) (by decide) hcw hsw (fm_dec dtLa_32 9 rfl) rfl hQ (fun r2 M3 h3 => ?_)
  obtain ⟨⟨v2, rfl⟩, hI3⟩ := h3
  refine z_then1 ?_
  refine z_istore C.1 (pc := 1598) (i := 6) (by decide) rfl (fm_dec dtLa_32 10 rfl) ?_
  dsimp only [List.set_cons_zero, List.set_cons_succ]
  refine z_goto C.1 (pc := 1600) 1940 (by decide) (fm_dec dtLa_32 11 rfl) ?_
  exact z_perm (wpermB _ _ _) (la_fgt (kk M1 f1 M3 hI3))
set_option maxRecDepth 20000 in
theorem la_c37 {p : Program} {l : Launch} {e : Env} {s : State} {m : MethodId} {below : List Frame} {meth : Method} {c : Code} {G : fmG} {b n : Nat} {xs : Nat → Int32} {I : fmM → fmM → Prop} (hS : laS_due I) (C : laC p l s m meth c G b n xs) {g g2 : Nat → Nat} {M M2 : fmM} {f : Nat → Int64} {o t : Nat} {i : Int32} {cu su : Nat} (hi : laI n i t) (hcu : cu + 1 ≤ 601024) (hsu : su + 6 ≤ 7293034) (hcu1 : cu + 1 + 1 ≤ 601024) (hsu1 : su + 6 + 6 ≤ 7293034) (hI : I M M2) (kk : ∀ (M' : fmM) (f' : Nat → Int64) (M2' : fmM), I M' M2' → zEv p l e room_1 s m #[.ref b] below meth c G (fun q => s.heap.size ≤ q) 8 (lw_Z below #[.ref b] s) 1940 [some (.ref b), some (.ref (g 0)), some (.ref (g2 0)), some (.ref o), some (.int i), none, none, none] [] (fmL Tx (g, G.2) M' ++ ((o, .inl (G.2.2.1 1, 1, .inr (.inl f'))) :: fmL Tm (g2, G.2) M2')) (cu + 1) (su + 6)) : zEv p l e room_1 s m #[.ref b] below meth c G (fun q => s.heap.size ≤ q) 8 (lw_Z below #[.ref b] s) 1603 [some (.ref b), some (.ref (g 0)), some (.ref (g2 0)), some (.ref o), some (.int i), none, none, none] [] (fmL Tx (g, G.2) M ++ ((o, .inl (G.2.2.1 1, 1, .inr (.inl f))) :: fmL Tm (g2, G.2) M2)) cu su := by
  have h0 := hS M M2 (xs (t + 1)) (xs (t + 2)) hI
  refine z_aloadn C.1 (pc := 1603) (n := 1) 1 rfl rfl (fm_dec dtLa_32 12 rfl) ?_
  refine la_arg C (pc := 1604) (v := 1) (t + 1) rfl rfl (hi 1 (by decide)) (by decide) (fm_dec dtLa_32 13 rfl) (fm_dec dtLa_32 14 rfl) (fm_dec dtLa_32 15 rfl) (fm_dec dtLa_32 16 rfl) (fm_dec dtLa_32 17 rfl) ?_
  refine la_arg C (pc := 1610) (v := 2) (t + 2) rfl rfl (hi 2 (by decide)) (by decide) (fm_dec dtLa_32 18 rfl) (fm_dec dtLa_32 19 rfl) (fm_dec dtLa_32 20 rfl) (fm_dec dtLa_32 21 rfl) (fm_dec dtLa_32 22 rfl) ?_
  refine z_aloadn C.1 (pc := 1616) (n := 3) 3 rfl rfl (fm_dec dtLa_32 23 rfl) ?_
  have hw : pvGood Tx 250 qX10_due [.ref 0, .int (xs (t + 1)), .int (xs (t + 2))] M (wI f (fun (r : Int32) (u : fmM × (Nat → Int64)) => pvGood Tm 250 qX11_due [.ref 0, .int (xs (t + 1)), .int (xs (t + 2))] M2 (fun r2 M2' => tI r2 ∧ I u.1 M2')) (fun E M' => (E = fmNSE ∧ (fun (r : Int32) (u : fmM × (Nat → Int64)) => pvGood Tm 250 qX11_due [.ref 0, .int (xs (t + 1)), .int (xs (t + 2))] M2 (fun r2 M2' => tI r2 ∧ I u.1 M2')) 1 (M', f)) ∨ (E = fmIAE ∧ (fun (r : Int32) (u : fmM × (Nat → Int64)) => pvGood Tm 250 qX11_due [.ref 0, .int (xs (t + 1)), .int (xs (t + 2))] M2 (fun r2 M2' => tI r2 ∧ I u.1 M2')) 2 (M', f)))) := h0.imp (fun r9 M9 h9 => by
    obtain ⟨h8, h2⟩ := h9
    rcases h8 with ⟨v, rfl⟩ | ⟨-, rfl⟩ | ⟨-, rfl⟩
    · exact h2
    · exact Or.inr ⟨rfl, h2⟩
    · exact Or.inl ⟨rfl, h2⟩)
  refine z_callW C.1 (y' := qL_due) (hh := [(0, 10, 13, 31), (0, 10, 17, 13)]) (W0 := WX G g o (fmL Tm (g2, G.2) M2) (M, f)) (WW := WX G g o (fmL Tm (g2, G.2) M2)) (Q := fun (r : Int32) (u : fmM × (Nat → Int64)) => pvGood Tm 250 qX11_due [.ref 0, .int (xs (t + 1)), .int (xs (t + 2))] M2 (fun r2 M2' => tI r2 ∧ I u.1 M2')) (As := [.ref (g 0), .int (xs (t + 1)), .int (xs (t + 2)), .ref o]) (st := []) (pc := 1617) (fm_in 1225 (by decide +kernel) rfl) nst_L_due niL nw_L_due nd_L_due rfl rfl (by decide) (show 311 ≤ room_1.frames by decide) (show 8 + (5 + 11) + 18200 ≤ room_1.locals by decide) (rm_c hcu) (rm_s hsu) (fm_dec dtLa_32 24 rfl) (w_due C.2.2.2.2.2 hw) (fun r u hQ => ?_)
  obtain ⟨M1, f1⟩ := u
  refine z_istore C.1 (pc := 1620) (i := 5) (by decide) rfl (fm_dec dtLa_32 25 rfl) ?_
  dsimp only [List.set_cons_zero, List.set_cons_succ]
  refine z_aloadn C.1 (pc := 1622) (n := 2) 2 rfl rfl (fm_dec dtLa_32 26 rfl) ?_
  refine la_arg C (pc := 1623) (v := 1) (t + 1) rfl rfl (hi 1 (by decide)) (by decide) (fm_dec dtLa_32 27 rfl) (fm_dec dtLa_32 28 rfl) (fm_dec dtLa_32 29 rfl) (fm_dec dtLa_33 0 rfl) (fm_dec dtLa_33 1 rfl) ?_
  refine la_arg C (pc := 1629) (v := 2) (t + 2) rfl rfl (hi 2 (by decide)) (by decide) (fm_dec dtLa_33 2 rfl) (fm_dec dtLa_33 3 rfl) (fm_dec dtLa_33 4 rfl) (fm_dec dtLa_33 5 rfl) (fm_dec dtLa_33 6 rfl) ?_
  have hcw := hcu1
  have hsw := hsu1
  refine z_perm (ws := (fmL Tx (g, G.2) M1 ++ ((o, .inl (G.2.2.1 1, 1, .inr (.inl f1))) :: fmL Tm (g2, G.2) M2))) (wpermW _ _ _) ?_
  refine la_ref C (pc := 1635) (As := [.int (xs (t + 1)), .int (xs (t + 2))]) (st := []) cvL_257 (by decide +kernel) rfl rfl (Nat.le_of_ble_eq_true rfl) (by decide) hcw hsw (fm_dec dtLa_33 7 rfl) rfl hQ (fun r2 M3 h3 => ?_)
  obtain ⟨⟨v2, rfl⟩, hI3⟩ := h3
  refine z_then1 ?_
  refine z_istore C.1 (pc := 1638) (i := 6) (by decide) rfl (fm_dec dtLa_33 8 rfl) ?_
  dsimp only [List.set_cons_zero, List.set_cons_succ]
  refine z_goto C.1 (pc := 1640) 1940 (by decide) (fm_dec dtLa_33 9 rfl) ?_
  exact z_perm (wpermB _ _ _) (la_fgt (kk M1 f1 M3 hI3))
set_option maxRecDepth 20000 in
theorem la_c38 {p : Program} {l : Launch} {e : Env} {s : State} {m : MethodId} {below : List Frame} {meth : Method} {c : Code} {G : fmG} {b n : Nat} {xs : Nat → Int32} {I : fmM → fmM → Prop} (hS : laS_news I) (C : laC p l s m meth c G b n xs) {g g2 : Nat → Nat} {M M2 : fmM} {f : Nat → Int64} {o t : Nat} {i : Int32} {cu su : Nat} (hi : laI n i t) (hcu : cu + 1 ≤ 601024) (hsu : su + 6 ≤ 7293034) (hcu1 : cu + 1 + 1 ≤ 601024) (hsu1 : su + 6 + 6 ≤ 7293034) (hI : I M M2) (kk : ∀ (M' : fmM) (f' : Nat → Int64) (M2' : fmM), I M' M2' → zEv p l e room_1 s m #[.ref b] below meth c G (fun q => s.heap.size ≤ q) 8 (lw_Z below #[.ref b] s) 1940 [some (.ref b), some (.ref (g 0)), some (.ref (g2 0)), some (.ref o), some (.int i), none, none, none] [] (fmL Tx (g, G.2) M' ++ ((o, .inl (G.2.2.1 1, 1, .inr (.inl f'))) :: fmL Tm (g2, G.2) M2')) (cu + 1) (su + 6)) : zEv p l e room_1 s m #[.ref b] below meth c G (fun q => s.heap.size ≤ q) 8 (lw_Z below #[.ref b] s) 1643 [some (.ref b), some (.ref (g 0)), some (.ref (g2 0)), some (.ref o), some (.int i), none, none, none] [] (fmL Tx (g, G.2) M ++ ((o, .inl (G.2.2.1 1, 1, .inr (.inl f))) :: fmL Tm (g2, G.2) M2)) cu su := by
  have h0 := hS M M2 (xs (t + 1)) hI
  refine z_aloadn C.1 (pc := 1643) (n := 1) 1 rfl rfl (fm_dec dtLa_33 10 rfl) ?_
  refine la_arg C (pc := 1644) (v := 1) (t + 1) rfl rfl (hi 1 (by decide)) (by decide) (fm_dec dtLa_33 11 rfl) (fm_dec dtLa_33 12 rfl) (fm_dec dtLa_33 13 rfl) (fm_dec dtLa_33 14 rfl) (fm_dec dtLa_33 15 rfl) ?_
  refine z_aloadn C.1 (pc := 1650) (n := 3) 3 rfl rfl (fm_dec dtLa_33 16 rfl) ?_
  have hw : pvGood Tx 250 qX10_news [.ref 0, .int (xs (t + 1))] M (wI f (fun (r : Int32) (u : fmM × (Nat → Int64)) => pvGood Tm 250 qX11_news [.ref 0, .int (xs (t + 1))] M2 (fun r2 M2' => tI r2 ∧ I u.1 M2')) (fun E M' => (E = fmNSE ∧ (fun (r : Int32) (u : fmM × (Nat → Int64)) => pvGood Tm 250 qX11_news [.ref 0, .int (xs (t + 1))] M2 (fun r2 M2' => tI r2 ∧ I u.1 M2')) 1 (M', f)))) := h0.imp (fun r9 M9 h9 => by
    obtain ⟨h8, h2⟩ := h9
    rcases h8 with ⟨v, rfl⟩ | ⟨h6, rfl⟩ | ⟨h6, rfl⟩
    · exact h2
    · exact absurd h6 (by decide)
    · exact ⟨rfl, h2⟩)
  refine z_callW C.1 (y' := qL_news) (hh := [(0, 9, 12, 31)]) (W0 := WX G g o (fmL Tm (g2, G.2) M2) (M, f)) (WW := WX G g o (fmL Tm (g2, G.2) M2)) (Q := fun (r : Int32) (u : fmM × (Nat → Int64)) => pvGood Tm 250 qX11_news [.ref 0, .int (xs (t + 1))] M2 (fun r2 M2' => tI r2 ∧ I u.1 M2')) (As := [.ref (g 0), .int (xs (t + 1)), .ref o]) (st := []) (pc := 1651) (fm_in 1232 (by decide +kernel) rfl) nst_L_news niL nw_L_news nd_L_news rfl rfl (by decide) (show 311 ≤ room_1.frames by decide) (show 8 + (4 + 11) + 18200 ≤ room_1.locals by decide) (rm_c hcu) (rm_s hsu) (fm_dec dtLa_33 17 rfl) (w_news C.2.2.2.2.2 hw) (fun r u hQ => ?_)
  obtain ⟨M1, f1⟩ := u
  refine z_istore C.1 (pc := 1654) (i := 5) (by decide) rfl (fm_dec dtLa_33 18 rfl) ?_
  dsimp only [List.set_cons_zero, List.set_cons_succ]
  refine z_aloadn C.1 (pc := 1656) (n := 2) 2 rfl rfl (fm_dec dtLa_33 19 rfl) ?_
  refine la_arg C (pc := 1657) (v := 1) (t + 1) rfl rfl (hi 1 (by decide)) (by decide) (fm_dec dtLa_33 20 rfl) (fm_dec dtLa_33 21 rfl) (fm_dec dtLa_33 22 rfl) (fm_dec dtLa_33 23 rfl) (fm_dec dtLa_33 24 rfl) ?_
  have hcw := hcu1
  have hsw := hsu1
  refine z_perm (ws := (fmL Tx (g, G.2) M1 ++ ((o, .inl (G.2.2.1 1, 1, .inr (.inl f1))) :: fmL Tm (g2, G.2) M2))) (wpermW _ _ _) ?_
  refine la_ref C (pc := 1663) (As := [.int (xs (t + 1))]) (st := []) cvL_260 (by decide +kernel) rfl rfl (Nat.le_of_ble_eq_true rfl) (by decide) hcw hsw (fm_dec dtLa_33 25 rfl) rfl hQ (fun r2 M3 h3 => ?_)
  obtain ⟨⟨v2, rfl⟩, hI3⟩ := h3
  refine z_then1 ?_
  refine z_istore C.1 (pc := 1666) (i := 6) (by decide) rfl (fm_dec dtLa_33 26 rfl) ?_
  dsimp only [List.set_cons_zero, List.set_cons_succ]
  refine z_goto C.1 (pc := 1668) 1940 (by decide) (fm_dec dtLa_33 27 rfl) ?_
  exact z_perm (wpermB _ _ _) (la_fgt (kk M1 f1 M3 hI3))
set_option maxRecDepth 20000 in
theorem la_c39 {p : Program} {l : Launch} {e : Env} {s : State} {m : MethodId} {below : List Frame} {meth : Method} {c : Code} {G : fmG} {b n : Nat} {xs : Nat → Int32} {I : fmM → fmM → Prop} (hS : laS_expects I) (C : laC p l s m meth c G b n xs) {g g2 : Nat → Nat} {M M2 : fmM} {f : Nat → Int64} {o t : Nat} {i : Int32} {cu su : Nat} (hi : laI n i t) (hcu : cu + 1 ≤ 601024) (hsu : su + 6 ≤ 7293034) (hcu1 : cu + 1 + 1 ≤ 601024) (hsu1 : su + 6 + 6 ≤ 7293034) (hI : I M M2) (kk : ∀ (M' : fmM) (f' : Nat → Int64) (M2' : fmM), I M' M2' → zEv p l e room_1 s m #[.ref b] below meth c G (fun q => s.heap.size ≤ q) 8 (lw_Z below #[.ref b] s) 1940 [some (.ref b), some (.ref (g 0)), some (.ref (g2 0)), some (.ref o), some (.int i), none, none, none] [] (fmL Tx (g, G.2) M' ++ ((o, .inl (G.2.2.1 1, 1, .inr (.inl f'))) :: fmL Tm (g2, G.2) M2')) (cu + 1) (su + 6)) : zEv p l e room_1 s m #[.ref b] below meth c G (fun q => s.heap.size ≤ q) 8 (lw_Z below #[.ref b] s) 1671 [some (.ref b), some (.ref (g 0)), some (.ref (g2 0)), some (.ref o), some (.int i), none, none, none] [] (fmL Tx (g, G.2) M ++ ((o, .inl (G.2.2.1 1, 1, .inr (.inl f))) :: fmL Tm (g2, G.2) M2)) cu su := by
  have h0 := hS M M2 (xs (t + 1)) (xs (t + 2)) (xs (t + 3)) hI
  refine z_aloadn C.1 (pc := 1671) (n := 1) 1 rfl rfl (fm_dec dtLa_33 28 rfl) ?_
  refine la_arg C (pc := 1672) (v := 1) (t + 1) rfl rfl (hi 1 (by decide)) (by decide) (fm_dec dtLa_33 29 rfl) (fm_dec dtLa_34 0 rfl) (fm_dec dtLa_34 1 rfl) (fm_dec dtLa_34 2 rfl) (fm_dec dtLa_34 3 rfl) ?_
  refine la_arg C (pc := 1678) (v := 2) (t + 2) rfl rfl (hi 2 (by decide)) (by decide) (fm_dec dtLa_34 4 rfl) (fm_dec dtLa_34 5 rfl) (fm_dec dtLa_34 6 rfl) (fm_dec dtLa_34 7 rfl) (fm_dec dtLa_34 8 rfl) ?_
  refine la_arg C (pc := 1684) (v := 3) (t + 3) rfl rfl (hi 3 (by decide)) (by decide) (fm_dec dtLa_34 9 rfl) (fm_dec dtLa_34 10 rfl) (fm_dec dtLa_34 11 rfl) (fm_dec dtLa_34 12 rfl) (fm_dec dtLa_34 13 rfl) ?_
  refine z_aloadn C.1 (pc := 1690) (n := 3) 3 rfl rfl (fm_dec dtLa_34 14 rfl) ?_
  have hw : pvGood Tx 250 qX10_expects [.ref 0, .int (xs (t + 1)), .int (xs (t + 2)), .int (xs (t + 3))] M (wJ f (fun (r : Int32) (u : fmM × (Nat → Int64)) => pvGood Tm 250 qX11_expects [.ref 0, .int (xs (t + 1)), .int (xs (t + 2)), .int (xs (t + 3))] M2 (fun r2 M2' => tJ r2 ∧ I u.1 M2')) (fun E M' => (E = fmNSE ∧ (fun (r : Int32) (u : fmM × (Nat → Int64)) => pvGood Tm 250 qX11_expects [.ref 0, .int (xs (t + 1)), .int (xs (t + 2)), .int (xs (t + 3))] M2 (fun r2 M2' => tJ r2 ∧ I u.1 M2')) 1 (M', f)) ∨ (E = fmIAE ∧ (fun (r : Int32) (u : fmM × (Nat → Int64)) => pvGood Tm 250 qX11_expects [.ref 0, .int (xs (t + 1)), .int (xs (t + 2)), .int (xs (t + 3))] M2 (fun r2 M2' => tJ r2 ∧ I u.1 M2')) 2 (M', f)))) := h0.imp (fun r9 M9 h9 => by
    obtain ⟨h8, h2⟩ := h9
    rcases h8 with ⟨v, rfl⟩ | ⟨-, rfl⟩ | ⟨-, rfl⟩
    · exact h2
    · exact Or.inr ⟨rfl, h2⟩
    · exact Or.inl ⟨rfl, h2⟩)
  refine z_callW C.1 (y' := qL_expects) (hh := [(0, 11, 14, 31), (0, 11, 18, 13)]) (W0 := WX G g o (fmL Tm (g2, G.2) M2) (M, f)) (WW := WX G g o (fmL Tm (g2, G.2) M2)) (Q := fun (r : Int32) (u : fmM × (Nat → Int64)) => pvGood Tm 250 qX11_expects [.ref 0, .int (xs (t + 1)), .int (xs (t + 2)), .int (xs (t + 3))] M2 (fun r2 M2' => tJ r2 ∧ I u.1 M2')) (As := [.ref (g 0), .int (xs (t + 1)), .int (xs (t + 2)), .int (xs (t + 3)), .ref o]) (st := []) (pc := 1691) (fm_in 1243 (by decide +kernel) rfl) nst_L_expects niL nw_L_expects nd_L_expects rfl rfl (by decide) (show 311 ≤ room_1.frames by decide) (show 8 + (6 + 11) + 18200 ≤ room_1.locals by decide) (rm_c hcu) (rm_s hsu) (fm_dec dtLa_34 15 rfl) (w_expects C.2.2.2.2.2 hw) (fun r u hQ => ?_)
  obtain ⟨M1, f1⟩ := u
  refine z_istore C.1 (pc := 1694) (i := 5) (by decide) rfl (fm_dec dtLa_34 16 rfl) ?_
  dsimp only [List.set_cons_zero, List.set_cons_succ]
  refine z_aloadn C.1 (pc := 1696) (n := 2) 2 rfl rfl (fm_dec dtLa_34 17 rfl) ?_
  refine la_arg C (pc := 1697) (v := 1) (t + 1) rfl rfl (hi 1 (by decide)) (by decide) (fm_dec dtLa_34 18 rfl) (fm_dec dtLa_34 19 rfl) (fm_dec dtLa_34 20 rfl) (fm_dec dtLa_34 21 rfl) (fm_dec dtLa_34 22 rfl) ?_
  refine la_arg C (pc := 1703) (v := 2) (t + 2) rfl rfl (hi 2 (by decide)) (by decide) (fm_dec dtLa_34 23 rfl) (fm_dec dtLa_34 24 rfl) (fm_dec dtLa_34 25 rfl) (fm_dec dtLa_34 26 rfl) (fm_dec dtLa_34 27 rfl) ?_
  refine la_arg C (pc := 1709) (v := 3) (t + 3) rfl rfl (hi 3 (by decide)) (by decide) (fm_dec dtLa_34 28 rfl) (fm_dec dtLa_34 29 rfl) (fm_dec dtLa_35 0 rfl) (fm_dec dtLa_35 1 rfl) (fm_dec dtLa_35 2 rfl) ?_
  have hcw := hcu1
  have hsw := hsu1
  refine z_perm (ws := (fmL Tx (g, G.2) M1 ++ ((o, .inl (G.2.2.1 1, 1, .inr (.inl f1))) :: fmL Tm (g2, G.2) M2))) (wpermW _ _ _) ?_
  refine la_ref C (pc := 1715) (As := [.int (xs (t + 1)), .int (xs (t + 2)), .int (xs (t + 3))]) (st := []) cvL_263 (by decide +kernel) rfl rfl (Nat.le_of_ble_eq_true rfl) (by decide) hcw hsw (fm_dec dtLa_35 3 rfl) rfl hQ (fun r2 M3 h3 => ?_)
  obtain ⟨⟨v2, rfl⟩, hI3⟩ := h3
  refine z_then1 ?_
  refine z_lstore C.1 (pc := 1718) (i := 6) (by decide) rfl (fm_dec dtLa_35 4 rfl) ?_
  dsimp only [List.set_cons_zero, List.set_cons_succ]
  refine z_goto C.1 (pc := 1720) 1940 (by decide) (fm_dec dtLa_35 5 rfl) ?_
  exact z_perm (wpermB _ _ _) (la_fgt (kk M1 f1 M3 hI3))
set_option maxRecDepth 20000 in
theorem la_c40 {p : Program} {l : Launch} {e : Env} {s : State} {m : MethodId} {below : List Frame} {meth : Method} {c : Code} {G : fmG} {b n : Nat} {xs : Nat → Int32} {I : fmM → fmM → Prop} (hS : laS_worst I) (C : laC p l s m meth c G b n xs) {g g2 : Nat → Nat} {M M2 : fmM} {f : Nat → Int64} {o t : Nat} {i : Int32} {cu su : Nat} (hi : laI n i t) (hcu : cu + 1 ≤ 601024) (hsu : su + 6 ≤ 7293034) (hcu1 : cu + 1 + 1 ≤ 601024) (hsu1 : su + 6 + 6 ≤ 7293034) (hI : I M M2) (kk : ∀ (M' : fmM) (f' : Nat → Int64) (M2' : fmM), I M' M2' → zEv p l e room_1 s m #[.ref b] below meth c G (fun q => s.heap.size ≤ q) 8 (lw_Z below #[.ref b] s) 1940 [some (.ref b), some (.ref (g 0)), some (.ref (g2 0)), some (.ref o), some (.int i), none, none, none] [] (fmL Tx (g, G.2) M' ++ ((o, .inl (G.2.2.1 1, 1, .inr (.inl f'))) :: fmL Tm (g2, G.2) M2')) (cu + 1) (su + 6)) : zEv p l e room_1 s m #[.ref b] below meth c G (fun q => s.heap.size ≤ q) 8 (lw_Z below #[.ref b] s) 1723 [some (.ref b), some (.ref (g 0)), some (.ref (g2 0)), some (.ref o), some (.int i), none, none, none] [] (fmL Tx (g, G.2) M ++ ((o, .inl (G.2.2.1 1, 1, .inr (.inl f))) :: fmL Tm (g2, G.2) M2)) cu su := by
  have h0 := hS M M2 hI
  refine z_aloadn C.1 (pc := 1723) (n := 1) 1 rfl rfl (fm_dec dtLa_35 6 rfl) ?_
  refine z_callX C.1 (T := Tx) (g := g) (M := M) (rest := (o, .inl (G.2.2.1 1, 1, .inr (.inl f))) :: fmL Tm (g2, G.2) M2) (k := 0) (ci := 10) (d' := 250) (pc := 1724) (As := []) (st := []) cvL_264 (by decide) rfl rfl rfl (by decide) (rm_fr (by decide)) (rm_lo (by decide) (by decide)) (rm_c hcu) (rm_s hsu) (fm_dec dtLa_35 7 rfl) ?_
  refine fmGood.imp (pvGood.fm C.2.2.2.2.2 (by decide) (by decide +kernel) h0) (fun o9 M1 h9 => ?_)
  obtain ⟨o', rfl, h8, h2⟩ := h9
  rcases h8 with ⟨v, rfl⟩ | ⟨h8, -⟩ | ⟨h8, -⟩
  · refine z_then1 ?_
    refine z_pop C.1 (pc := 1727) rfl (fm_dec dtLa_35 8 rfl) ?_
    refine z_aloadn C.1 (pc := 1728) (n := 2) 2 rfl rfl (fm_dec dtLa_35 9 rfl) ?_
    have hcw := hcu
    have hsw := hsu
    refine z_perm (ws := (fmL Tx (g, G.2) M1 ++ ((o, .inl (G.2.2.1 1, 1, .inr (.inl f))) :: fmL Tm (g2, G.2) M2))) (wpermW _ _ _) ?_
    refine la_ref C (pc := 1729) (As := []) (st := []) cvL_267 (by decide +kernel) rfl rfl (Nat.le_of_ble_eq_true rfl) (by decide) hcw hsw (fm_dec dtLa_35 10 rfl) rfl h2 (fun r2 M3 h3 => ?_)
    obtain ⟨⟨v2, rfl⟩, hI3⟩ := h3
    refine z_then1 ?_
    refine z_pop C.1 (pc := 1732) rfl (fm_dec dtLa_35 11 rfl) ?_
    refine z_goto C.1 (pc := 1733) 1940 (by decide) (fm_dec dtLa_35 12 rfl) ?_
    refine z_more (Nat.le_succ _) (Nat.le_add_right _ 6) ?_
    exact z_perm (wpermB _ _ _) (la_fgt (kk M1 f M3 hI3))
  · cases h8
  · cases h8
set_option maxRecDepth 20000 in
theorem la_c41 {p : Program} {l : Launch} {e : Env} {s : State} {m : MethodId} {below : List Frame} {meth : Method} {c : Code} {G : fmG} {b n : Nat} {xs : Nat → Int32} {I : fmM → fmM → Prop} (hS : laS_years I) (C : laC p l s m meth c G b n xs) {g g2 : Nat → Nat} {M M2 : fmM} {f : Nat → Int64} {o t : Nat} {i : Int32} {cu su : Nat} (hi : laI n i t) (hcu : cu + 1 ≤ 601024) (hsu : su + 6 ≤ 7293034) (hcu1 : cu + 1 + 1 ≤ 601024) (hsu1 : su + 6 + 6 ≤ 7293034) (hI : I M M2) (kk : ∀ (M' : fmM) (f' : Nat → Int64) (M2' : fmM), I M' M2' → zEv p l e room_1 s m #[.ref b] below meth c G (fun q => s.heap.size ≤ q) 8 (lw_Z below #[.ref b] s) 1940 [some (.ref b), some (.ref (g 0)), some (.ref (g2 0)), some (.ref o), some (.int i), none, none, none] [] (fmL Tx (g, G.2) M' ++ ((o, .inl (G.2.2.1 1, 1, .inr (.inl f'))) :: fmL Tm (g2, G.2) M2')) (cu + 1) (su + 6)) : zEv p l e room_1 s m #[.ref b] below meth c G (fun q => s.heap.size ≤ q) 8 (lw_Z below #[.ref b] s) 1736 [some (.ref b), some (.ref (g 0)), some (.ref (g2 0)), some (.ref o), some (.int i), none, none, none] [] (fmL Tx (g, G.2) M ++ ((o, .inl (G.2.2.1 1, 1, .inr (.inl f))) :: fmL Tm (g2, G.2) M2)) cu su := by
  have h0 := hS M M2 (xs (t + 1)) (xs (t + 2)) (xs (t + 3)) hI
  refine z_aloadn C.1 (pc := 1736) (n := 1) 1 rfl rfl (fm_dec dtLa_35 13 rfl) ?_
  refine la_arg C (pc := 1737) (v := 1) (t + 1) rfl rfl (hi 1 (by decide)) (by decide) (fm_dec dtLa_35 14 rfl) (fm_dec dtLa_35 15 rfl) (fm_dec dtLa_35 16 rfl) (fm_dec dtLa_35 17 rfl) (fm_dec dtLa_35 18 rfl) ?_
  refine la_arg C (pc := 1743) (v := 2) (t + 2) rfl rfl (hi 2 (by decide)) (by decide) (fm_dec dtLa_35 19 rfl) (fm_dec dtLa_35 20 rfl) (fm_dec dtLa_35 21 rfl) (fm_dec dtLa_35 22 rfl) (fm_dec dtLa_35 23 rfl) ?_
  refine la_arg C (pc := 1749) (v := 3) (t + 3) rfl rfl (hi 3 (by decide)) (by decide) (fm_dec dtLa_35 24 rfl) (fm_dec dtLa_35 25 rfl) (fm_dec dtLa_35 26 rfl) (fm_dec dtLa_35 27 rfl) (fm_dec dtLa_35 28 rfl) ?_
  refine z_aloadn C.1 (pc := 1755) (n := 3) 3 rfl rfl (fm_dec dtLa_35 29 rfl) ?_
  have hw : pvGood Tx 250 qX10_years [.ref 0, .int (xs (t + 1)), .int (xs (t + 2)), .int (xs (t + 3))] M (wI f (fun (r : Int32) (u : fmM × (Nat → Int64)) => pvGood Tm 250 qX11_years [.ref 0, .int (xs (t + 1)), .int (xs (t + 2)), .int (xs (t + 3))] M2 (fun r2 M2' => tI r2 ∧ I u.1 M2')) (fun E M' => (E = fmIAE ∧ (fun (r : Int32) (u : fmM × (Nat → Int64)) => pvGood Tm 250 qX11_years [.ref 0, .int (xs (t + 1)), .int (xs (t + 2)), .int (xs (t + 3))] M2 (fun r2 M2' => tI r2 ∧ I u.1 M2')) 1 (M', f)))) := h0.imp (fun r9 M9 h9 => by
    obtain ⟨h8, h2⟩ := h9
    rcases h8 with ⟨v, rfl⟩ | ⟨h6, rfl⟩ | ⟨h6, rfl⟩
    · exact h2
    · exact ⟨rfl, h2⟩
    · exact absurd h6 (by decide))
  refine z_callW C.1 (y' := qL_years) (hh := [(0, 12, 15, 13)]) (W0 := WX G g o (fmL Tm (g2, G.2) M2) (M, f)) (WW := WX G g o (fmL Tm (g2, G.2) M2)) (Q := fun (r : Int32) (u : fmM × (Nat → Int64)) => pvGood Tm 250 qX11_years [.ref 0, .int (xs (t + 1)), .int (xs (t + 2)), .int (xs (t + 3))] M2 (fun r2 M2' => tI r2 ∧ I u.1 M2')) (As := [.ref (g 0), .int (xs (t + 1)), .int (xs (t + 2)), .int (xs (t + 3)), .ref o]) (st := []) (pc := 1756) (fm_in 1251 (by decide +kernel) rfl) nst_L_years niL nw_L_years nd_L_years rfl rfl (by decide) (show 311 ≤ room_1.frames by decide) (show 8 + (6 + 11) + 18200 ≤ room_1.locals by decide) (rm_c hcu) (rm_s hsu) (fm_dec dtLa_36 0 rfl) (w_years C.2.2.2.2.2 hw) (fun r u hQ => ?_)
  obtain ⟨M1, f1⟩ := u
  refine z_istore C.1 (pc := 1759) (i := 5) (by decide) rfl (fm_dec dtLa_36 1 rfl) ?_
  dsimp only [List.set_cons_zero, List.set_cons_succ]
  refine z_aloadn C.1 (pc := 1761) (n := 2) 2 rfl rfl (fm_dec dtLa_36 2 rfl) ?_
  refine la_arg C (pc := 1762) (v := 1) (t + 1) rfl rfl (hi 1 (by decide)) (by decide) (fm_dec dtLa_36 3 rfl) (fm_dec dtLa_36 4 rfl) (fm_dec dtLa_36 5 rfl) (fm_dec dtLa_36 6 rfl) (fm_dec dtLa_36 7 rfl) ?_
  refine la_arg C (pc := 1768) (v := 2) (t + 2) rfl rfl (hi 2 (by decide)) (by decide) (fm_dec dtLa_36 8 rfl) (fm_dec dtLa_36 9 rfl) (fm_dec dtLa_36 10 rfl) (fm_dec dtLa_36 11 rfl) (fm_dec dtLa_36 12 rfl) ?_
  refine la_arg C (pc := 1774) (v := 3) (t + 3) rfl rfl (hi 3 (by decide)) (by decide) (fm_dec dtLa_36 13 rfl) (fm_dec dtLa_36 14 rfl) (fm_dec dtLa_36 15 rfl) (fm_dec dtLa_36 16 rfl) (fm_dec dtLa_36 17 rfl) ?_
  have hcw := hcu1
  have hsw := hsu1
  refine z_perm (ws := (fmL Tx (g, G.2) M1 ++ ((o, .inl (G.2.2.1 1, 1, .inr (.inl f1))) :: fmL Tm (g2, G.2) M2))) (wpermW _ _ _) ?_
  refine la_ref C (pc := 1780) (As := [.int (xs (t + 1)), .int (xs (t + 2)), .int (xs (t + 3))]) (st := []) cvL_270 (by decide +kernel) rfl rfl (Nat.le_of_ble_eq_true rfl) (by decide) hcw hsw (fm_dec dtLa_36 18 rfl) rfl hQ (fun r2 M3 h3 => ?_)
  obtain ⟨⟨v2, rfl⟩, hI3⟩ := h3
  refine z_then1 ?_
  refine z_istore C.1 (pc := 1783) (i := 6) (by decide) rfl (fm_dec dtLa_36 19 rfl) ?_
  dsimp only [List.set_cons_zero, List.set_cons_succ]
  refine z_goto C.1 (pc := 1785) 1940 (by decide) (fm_dec dtLa_36 20 rfl) ?_
  exact z_perm (wpermB _ _ _) (la_fgt (kk M1 f1 M3 hI3))
set_option maxRecDepth 20000 in
theorem la_c42 {p : Program} {l : Launch} {e : Env} {s : State} {m : MethodId} {below : List Frame} {meth : Method} {c : Code} {G : fmG} {b n : Nat} {xs : Nat → Int32} {I : fmM → fmM → Prop} (hS : laS_span I) (C : laC p l s m meth c G b n xs) {g g2 : Nat → Nat} {M M2 : fmM} {f : Nat → Int64} {o t : Nat} {i : Int32} {cu su : Nat} (hi : laI n i t) (hcu : cu + 1 ≤ 601024) (hsu : su + 6 ≤ 7293034) (hcu1 : cu + 1 + 1 ≤ 601024) (hsu1 : su + 6 + 6 ≤ 7293034) (hI : I M M2) (kk : ∀ (M' : fmM) (f' : Nat → Int64) (M2' : fmM), I M' M2' → zEv p l e room_1 s m #[.ref b] below meth c G (fun q => s.heap.size ≤ q) 8 (lw_Z below #[.ref b] s) 1940 [some (.ref b), some (.ref (g 0)), some (.ref (g2 0)), some (.ref o), some (.int i), none, none, none] [] (fmL Tx (g, G.2) M' ++ ((o, .inl (G.2.2.1 1, 1, .inr (.inl f'))) :: fmL Tm (g2, G.2) M2')) (cu + 1) (su + 6)) : zEv p l e room_1 s m #[.ref b] below meth c G (fun q => s.heap.size ≤ q) 8 (lw_Z below #[.ref b] s) 1788 [some (.ref b), some (.ref (g 0)), some (.ref (g2 0)), some (.ref o), some (.int i), none, none, none] [] (fmL Tx (g, G.2) M ++ ((o, .inl (G.2.2.1 1, 1, .inr (.inl f))) :: fmL Tm (g2, G.2) M2)) cu su := by
  have h0 := hS M M2 (xs (t + 1)) (xs (t + 2)) (xs (t + 3)) (xs (t + 4)) (xs (t + 5)) hI
  refine z_aloadn C.1 (pc := 1788) (n := 1) 1 rfl rfl (fm_dec dtLa_36 21 rfl) ?_
  refine la_arg C (pc := 1789) (v := 1) (t + 1) rfl rfl (hi 1 (by decide)) (by decide) (fm_dec dtLa_36 22 rfl) (fm_dec dtLa_36 23 rfl) (fm_dec dtLa_36 24 rfl) (fm_dec dtLa_36 25 rfl) (fm_dec dtLa_36 26 rfl) ?_
  refine la_arg C (pc := 1795) (v := 2) (t + 2) rfl rfl (hi 2 (by decide)) (by decide) (fm_dec dtLa_36 27 rfl) (fm_dec dtLa_36 28 rfl) (fm_dec dtLa_36 29 rfl) (fm_dec dtLa_37 0 rfl) (fm_dec dtLa_37 1 rfl) ?_
  refine la_arg C (pc := 1801) (v := 3) (t + 3) rfl rfl (hi 3 (by decide)) (by decide) (fm_dec dtLa_37 2 rfl) (fm_dec dtLa_37 3 rfl) (fm_dec dtLa_37 4 rfl) (fm_dec dtLa_37 5 rfl) (fm_dec dtLa_37 6 rfl) ?_
  refine la_arg C (pc := 1807) (v := 4) (t + 4) rfl rfl (hi 4 (by decide)) (by decide) (fm_dec dtLa_37 7 rfl) (fm_dec dtLa_37 8 rfl) (fm_dec dtLa_37 9 rfl) (fm_dec dtLa_37 10 rfl) (fm_dec dtLa_37 11 rfl) ?_
  refine la_arg C (pc := 1813) (v := 5) (t + 5) rfl rfl (hi 5 (by decide)) (by decide) (fm_dec dtLa_37 12 rfl) (fm_dec dtLa_37 13 rfl) (fm_dec dtLa_37 14 rfl) (fm_dec dtLa_37 15 rfl) (fm_dec dtLa_37 16 rfl) ?_
  refine z_aloadn C.1 (pc := 1819) (n := 3) 3 rfl rfl (fm_dec dtLa_37 17 rfl) ?_
  have hw : pvGood Tx 250 qX10_span [.ref 0, .int (xs (t + 1)), .int (xs (t + 2)), .int (xs (t + 3)), .int (xs (t + 4)), .int (xs (t + 5))] M (wI f (fun (r : Int32) (u : fmM × (Nat → Int64)) => pvGood Tm 250 qX11_span [.ref 0, .int (xs (t + 1)), .int (xs (t + 2)), .int (xs (t + 3)), .int (xs (t + 4)), .int (xs (t + 5))] M2 (fun r2 M2' => tI r2 ∧ I u.1 M2')) (fun E M' => (E = fmIAE ∧ (fun (r : Int32) (u : fmM × (Nat → Int64)) => pvGood Tm 250 qX11_span [.ref 0, .int (xs (t + 1)), .int (xs (t + 2)), .int (xs (t + 3)), .int (xs (t + 4)), .int (xs (t + 5))] M2 (fun r2 M2' => tI r2 ∧ I u.1 M2')) 1 (M', f)))) := h0.imp (fun r9 M9 h9 => by
    obtain ⟨h8, h2⟩ := h9
    rcases h8 with ⟨v, rfl⟩ | ⟨h6, rfl⟩ | ⟨h6, rfl⟩
    · exact h2
    · exact ⟨rfl, h2⟩
    · exact absurd h6 (by decide))
  refine z_callW C.1 (y' := qL_span) (hh := [(0, 16, 19, 13)]) (W0 := WX G g o (fmL Tm (g2, G.2) M2) (M, f)) (WW := WX G g o (fmL Tm (g2, G.2) M2)) (Q := fun (r : Int32) (u : fmM × (Nat → Int64)) => pvGood Tm 250 qX11_span [.ref 0, .int (xs (t + 1)), .int (xs (t + 2)), .int (xs (t + 3)), .int (xs (t + 4)), .int (xs (t + 5))] M2 (fun r2 M2' => tI r2 ∧ I u.1 M2')) (As := [.ref (g 0), .int (xs (t + 1)), .int (xs (t + 2)), .int (xs (t + 3)), .int (xs (t + 4)), .int (xs (t + 5)), .ref o]) (st := []) (pc := 1820) (fm_in 1282 (by decide +kernel) rfl) nst_L_span niL nw_L_span nd_L_span rfl rfl (by decide) (show 311 ≤ room_1.frames by decide) (show 8 + (8 + 11) + 18200 ≤ room_1.locals by decide) (rm_c hcu) (rm_s hsu) (fm_dec dtLa_37 18 rfl) (w_span C.2.2.2.2.2 hw) (fun r u hQ => ?_)
  obtain ⟨M1, f1⟩ := u
  refine z_istore C.1 (pc := 1823) (i := 5) (by decide) rfl (fm_dec dtLa_37 19 rfl) ?_
  dsimp only [List.set_cons_zero, List.set_cons_succ]
  refine z_aloadn C.1 (pc := 1825) (n := 2) 2 rfl rfl (fm_dec dtLa_37 20 rfl) ?_
  refine la_arg C (pc := 1826) (v := 1) (t + 1) rfl rfl (hi 1 (by decide)) (by decide) (fm_dec dtLa_37 21 rfl) (fm_dec dtLa_37 22 rfl) (fm_dec dtLa_37 23 rfl) (fm_dec dtLa_37 24 rfl) (fm_dec dtLa_37 25 rfl) ?_
  refine la_arg C (pc := 1832) (v := 2) (t + 2) rfl rfl (hi 2 (by decide)) (by decide) (fm_dec dtLa_37 26 rfl) (fm_dec dtLa_37 27 rfl) (fm_dec dtLa_37 28 rfl) (fm_dec dtLa_37 29 rfl) (fm_dec dtLa_38 0 rfl) ?_
  refine la_arg C (pc := 1838) (v := 3) (t + 3) rfl rfl (hi 3 (by decide)) (by decide) (fm_dec dtLa_38 1 rfl) (fm_dec dtLa_38 2 rfl) (fm_dec dtLa_38 3 rfl) (fm_dec dtLa_38 4 rfl) (fm_dec dtLa_38 5 rfl) ?_
  refine la_arg C (pc := 1844) (v := 4) (t + 4) rfl rfl (hi 4 (by decide)) (by decide) (fm_dec dtLa_38 6 rfl) (fm_dec dtLa_38 7 rfl) (fm_dec dtLa_38 8 rfl) (fm_dec dtLa_38 9 rfl) (fm_dec dtLa_38 10 rfl) ?_
  refine la_arg C (pc := 1850) (v := 5) (t + 5) rfl rfl (hi 5 (by decide)) (by decide) (fm_dec dtLa_38 11 rfl) (fm_dec dtLa_38 12 rfl) (fm_dec dtLa_38 13 rfl) (fm_dec dtLa_38 14 rfl) (fm_dec dtLa_38 15 rfl) ?_
  have hcw := hcu1
  have hsw := hsu1
  refine z_perm (ws := (fmL Tx (g, G.2) M1 ++ ((o, .inl (G.2.2.1 1, 1, .inr (.inl f1))) :: fmL Tm (g2, G.2) M2))) (wpermW _ _ _) ?_
  refine la_ref C (pc := 1856) (As := [.int (xs (t + 1)), .int (xs (t + 2)), .int (xs (t + 3)), .int (xs (t + 4)), .int (xs (t + 5))]) (st := []) cvL_273 (by decide +kernel) rfl rfl (Nat.le_of_ble_eq_true rfl) (by decide) hcw hsw (fm_dec dtLa_38 16 rfl) rfl hQ (fun r2 M3 h3 => ?_)
  obtain ⟨⟨v2, rfl⟩, hI3⟩ := h3
  refine z_then1 ?_
  refine z_istore C.1 (pc := 1859) (i := 6) (by decide) rfl (fm_dec dtLa_38 17 rfl) ?_
  dsimp only [List.set_cons_zero, List.set_cons_succ]
  refine z_goto C.1 (pc := 1861) 1940 (by decide) (fm_dec dtLa_38 18 rfl) ?_
  exact z_perm (wpermB _ _ _) (la_fgt (kk M1 f1 M3 hI3))
set_option maxRecDepth 20000 in
theorem la_c43 {p : Program} {l : Launch} {e : Env} {s : State} {m : MethodId} {below : List Frame} {meth : Method} {c : Code} {G : fmG} {b n : Nat} {xs : Nat → Int32} {I : fmM → fmM → Prop} (hS : laS_image I) (C : laC p l s m meth c G b n xs) {g g2 : Nat → Nat} {M M2 : fmM} {f : Nat → Int64} {o t : Nat} {i : Int32} {cu su : Nat} (hi : laI n i t) (hcu : cu + 1 ≤ 601024) (hsu : su + 6 ≤ 7293034) (hcu1 : cu + 1 + 1 ≤ 601024) (hsu1 : su + 6 + 6 ≤ 7293034) (hI : I M M2) (kk : ∀ (M' : fmM) (f' : Nat → Int64) (M2' : fmM), I M' M2' → zEv p l e room_1 s m #[.ref b] below meth c G (fun q => s.heap.size ≤ q) 8 (lw_Z below #[.ref b] s) 1940 [some (.ref b), some (.ref (g 0)), some (.ref (g2 0)), some (.ref o), some (.int i), none, none, none] [] (fmL Tx (g, G.2) M' ++ ((o, .inl (G.2.2.1 1, 1, .inr (.inl f'))) :: fmL Tm (g2, G.2) M2')) (cu + 1) (su + 6)) : zEv p l e room_1 s m #[.ref b] below meth c G (fun q => s.heap.size ≤ q) 8 (lw_Z below #[.ref b] s) 1864 [some (.ref b), some (.ref (g 0)), some (.ref (g2 0)), some (.ref o), some (.int i), none, none, none] [] (fmL Tx (g, G.2) M ++ ((o, .inl (G.2.2.1 1, 1, .inr (.inl f))) :: fmL Tm (g2, G.2) M2)) cu su := by
  have h0 := hS M M2 hI
  refine z_aloadn C.1 (pc := 1864) (n := 1) 1 rfl rfl (fm_dec dtLa_38 19 rfl) ?_
  refine z_callX C.1 (T := Tx) (g := g) (M := M) (rest := (o, .inl (G.2.2.1 1, 1, .inr (.inl f))) :: fmL Tm (g2, G.2) M2) (k := 0) (ci := 10) (d' := 250) (pc := 1865) (As := []) (st := []) cvL_274 (by decide) rfl rfl rfl (by decide) (rm_fr (by decide)) (rm_lo (by decide) (by decide)) (rm_c hcu) (rm_s hsu) (fm_dec dtLa_38 20 rfl) ?_
  refine fmGood.imp (pvGood.fm C.2.2.2.2.2 (by decide) (by decide +kernel) h0) (fun o9 M1 h9 => ?_)
  obtain ⟨o', rfl, h8, h2⟩ := h9
  rcases h8 with ⟨v, rfl⟩ | ⟨h8, -⟩ | ⟨h8, -⟩
  · refine z_then1 ?_
    refine z_pop C.1 (pc := 1868) rfl (fm_dec dtLa_38 21 rfl) ?_
    refine z_aloadn C.1 (pc := 1869) (n := 2) 2 rfl rfl (fm_dec dtLa_38 22 rfl) ?_
    have hcw := hcu
    have hsw := hsu
    refine z_perm (ws := (fmL Tx (g, G.2) M1 ++ ((o, .inl (G.2.2.1 1, 1, .inr (.inl f))) :: fmL Tm (g2, G.2) M2))) (wpermW _ _ _) ?_
    refine la_ref C (pc := 1870) (As := []) (st := []) cvL_277 (by decide +kernel) rfl rfl (Nat.le_of_ble_eq_true rfl) (by decide) hcw hsw (fm_dec dtLa_38 23 rfl) rfl h2 (fun r2 M3 h3 => ?_)
    obtain ⟨⟨v2, rfl⟩, hI3⟩ := h3
    refine z_then1 ?_
    refine z_pop C.1 (pc := 1873) rfl (fm_dec dtLa_38 24 rfl) ?_
    refine z_goto C.1 (pc := 1874) 1940 (by decide) (fm_dec dtLa_38 25 rfl) ?_
    refine z_more (Nat.le_succ _) (Nat.le_add_right _ 6) ?_
    exact z_perm (wpermB _ _ _) (la_fgt (kk M1 f M3 hI3))
  · cases h8
  · cases h8
set_option maxRecDepth 20000 in
theorem la_c44 {p : Program} {l : Launch} {e : Env} {s : State} {m : MethodId} {below : List Frame} {meth : Method} {c : Code} {G : fmG} {b n : Nat} {xs : Nat → Int32} {I : fmM → fmM → Prop} (hS : laS_restore I) (C : laC p l s m meth c G b n xs) {g g2 : Nat → Nat} {M M2 : fmM} {f : Nat → Int64} {o t : Nat} {i : Int32} {cu su : Nat} (hi : laI n i t) (hcu : cu + 1 ≤ 601024) (hsu : su + 6 ≤ 7293034) (hcu1 : cu + 1 + 1 ≤ 601024) (hsu1 : su + 6 + 6 ≤ 7293034) (hI : I M M2) (kk : ∀ (M' : fmM) (f' : Nat → Int64) (M2' : fmM), I M' M2' → zEv p l e room_1 s m #[.ref b] below meth c G (fun q => s.heap.size ≤ q) 8 (lw_Z below #[.ref b] s) 1940 [some (.ref b), some (.ref (g 0)), some (.ref (g2 0)), some (.ref o), some (.int i), none, none, none] [] (fmL Tx (g, G.2) M' ++ ((o, .inl (G.2.2.1 1, 1, .inr (.inl f'))) :: fmL Tm (g2, G.2) M2')) (cu + 1) (su + 6)) : zEv p l e room_1 s m #[.ref b] below meth c G (fun q => s.heap.size ≤ q) 8 (lw_Z below #[.ref b] s) 1877 [some (.ref b), some (.ref (g 0)), some (.ref (g2 0)), some (.ref o), some (.int i), none, none, none] [] (fmL Tx (g, G.2) M ++ ((o, .inl (G.2.2.1 1, 1, .inr (.inl f))) :: fmL Tm (g2, G.2) M2)) cu su := by
  have h0 := hS M M2 hI
  refine z_aloadn C.1 (pc := 1877) (n := 1) 1 rfl rfl (fm_dec dtLa_38 26 rfl) ?_
  refine z_callX C.1 (T := Tx) (g := g) (M := M) (rest := (o, .inl (G.2.2.1 1, 1, .inr (.inl f))) :: fmL Tm (g2, G.2) M2) (k := 0) (ci := 10) (d' := 250) (pc := 1878) (As := []) (st := []) cvL_278 (by decide) rfl rfl rfl (by decide) (rm_fr (by decide)) (rm_lo (by decide) (by decide)) (rm_c hcu) (rm_s hsu) (fm_dec dtLa_38 27 rfl) ?_
  refine fmGood.imp (pvGood.fm C.2.2.2.2.2 (by decide) (by decide +kernel) h0) (fun o9 M1 h9 => ?_)
  obtain ⟨o', rfl, h8, h2⟩ := h9
  rcases h8 with ⟨v, rfl⟩ | ⟨h8, -⟩ | ⟨h8, -⟩
  · refine z_then1 ?_
    refine z_pop C.1 (pc := 1881) rfl (fm_dec dtLa_38 28 rfl) ?_
    refine z_aloadn C.1 (pc := 1882) (n := 2) 2 rfl rfl (fm_dec dtLa_38 29 rfl) ?_
    have hcw := hcu
    have hsw := hsu
    refine z_perm (ws := (fmL Tx (g, G.2) M1 ++ ((o, .inl (G.2.2.1 1, 1, .inr (.inl f))) :: fmL Tm (g2, G.2) M2))) (wpermW _ _ _) ?_
    refine la_ref C (pc := 1883) (As := []) (st := []) cvL_281 (by decide +kernel) rfl rfl (Nat.le_of_ble_eq_true rfl) (by decide) hcw hsw (fm_dec dtLa_39 0 rfl) rfl h2 (fun r2 M3 h3 => ?_)
    obtain ⟨⟨v2, rfl⟩, hI3⟩ := h3
    refine z_then1 ?_
    refine z_pop C.1 (pc := 1886) rfl (fm_dec dtLa_39 1 rfl) ?_
    refine z_goto C.1 (pc := 1887) 1940 (by decide) (fm_dec dtLa_39 2 rfl) ?_
    refine z_more (Nat.le_succ _) (Nat.le_add_right _ 6) ?_
    exact z_perm (wpermB _ _ _) (la_fgt (kk M1 f M3 hI3))
  · cases h8
  · cases h8
set_option maxRecDepth 20000 in
theorem la_c45 {p : Program} {l : Launch} {e : Env} {s : State} {m : MethodId} {below : List Frame} {meth : Method} {c : Code} {G : fmG} {b n : Nat} {xs : Nat → Int32} {I : fmM → fmM → Prop} (hS : laS_status I) (C : laC p l s m meth c G b n xs) {g g2 : Nat → Nat} {M M2 : fmM} {f : Nat → Int64} {o t : Nat} {i : Int32} {cu su : Nat} (hi : laI n i t) (hcu : cu + 1 ≤ 601024) (hsu : su + 6 ≤ 7293034) (hcu1 : cu + 1 + 1 ≤ 601024) (hsu1 : su + 6 + 6 ≤ 7293034) (hI : I M M2) (kk : ∀ (M' : fmM) (f' : Nat → Int64) (M2' : fmM), I M' M2' → zEv p l e room_1 s m #[.ref b] below meth c G (fun q => s.heap.size ≤ q) 8 (lw_Z below #[.ref b] s) 1940 [some (.ref b), some (.ref (g 0)), some (.ref (g2 0)), some (.ref o), some (.int i), none, none, none] [] (fmL Tx (g, G.2) M' ++ ((o, .inl (G.2.2.1 1, 1, .inr (.inl f'))) :: fmL Tm (g2, G.2) M2')) (cu + 1) (su + 6)) : zEv p l e room_1 s m #[.ref b] below meth c G (fun q => s.heap.size ≤ q) 8 (lw_Z below #[.ref b] s) 1890 [some (.ref b), some (.ref (g 0)), some (.ref (g2 0)), some (.ref o), some (.int i), none, none, none] [] (fmL Tx (g, G.2) M ++ ((o, .inl (G.2.2.1 1, 1, .inr (.inl f))) :: fmL Tm (g2, G.2) M2)) cu su := by
  have h0 := hS M M2 (xs (t + 1)) hI
  refine z_aloadn C.1 (pc := 1890) (n := 1) 1 rfl rfl (fm_dec dtLa_39 3 rfl) ?_
  refine la_arg C (pc := 1891) (v := 1) (t + 1) rfl rfl (hi 1 (by decide)) (by decide) (fm_dec dtLa_39 4 rfl) (fm_dec dtLa_39 5 rfl) (fm_dec dtLa_39 6 rfl) (fm_dec dtLa_39 7 rfl) (fm_dec dtLa_39 8 rfl) ?_
  refine z_callX C.1 (T := Tx) (g := g) (M := M) (rest := (o, .inl (G.2.2.1 1, 1, .inr (.inl f))) :: fmL Tm (g2, G.2) M2) (k := 0) (ci := 10) (d' := 250) (pc := 1897) (As := [.int (xs (t + 1))]) (st := []) cvL_282 (by decide) rfl rfl rfl (by decide) (rm_fr (by decide)) (rm_lo (by decide) (by decide)) (rm_c hcu) (rm_s hsu) (fm_dec dtLa_39 9 rfl) ?_
  refine fmGood.imp (pvGood.fm C.2.2.2.2.2 (by decide) (by decide +kernel) h0) (fun o9 M1 h9 => ?_)
  obtain ⟨o', rfl, h8, h2⟩ := h9
  rcases h8 with ⟨v, rfl⟩ | ⟨h8, -⟩ | ⟨h8, -⟩
  · refine z_then1 ?_
    refine z_pop C.1 (pc := 1900) rfl (fm_dec dtLa_39 10 rfl) ?_
    refine z_aloadn C.1 (pc := 1901) (n := 2) 2 rfl rfl (fm_dec dtLa_39 11 rfl) ?_
    refine la_arg C (pc := 1902) (v := 1) (t + 1) rfl rfl (hi 1 (by decide)) (by decide) (fm_dec dtLa_39 12 rfl) (fm_dec dtLa_39 13 rfl) (fm_dec dtLa_39 14 rfl) (fm_dec dtLa_39 15 rfl) (fm_dec dtLa_39 16 rfl) ?_
    have hcw := hcu
    have hsw := hsu
    refine z_perm (ws := (fmL Tx (g, G.2) M1 ++ ((o, .inl (G.2.2.1 1, 1, .inr (.inl f))) :: fmL Tm (g2, G.2) M2))) (wpermW _ _ _) ?_
    refine la_ref C (pc := 1908) (As := [.int (xs (t + 1))]) (st := []) cvL_285 (by decide +kernel) rfl rfl (Nat.le_of_ble_eq_true rfl) (by decide) hcw hsw (fm_dec dtLa_39 17 rfl) rfl h2 (fun r2 M3 h3 => ?_)
    obtain ⟨⟨v2, rfl⟩, hI3⟩ := h3
    refine z_then1 ?_
    refine z_pop C.1 (pc := 1911) rfl (fm_dec dtLa_39 18 rfl) ?_
    refine z_goto C.1 (pc := 1912) 1940 (by decide) (fm_dec dtLa_39 19 rfl) ?_
    refine z_more (Nat.le_succ _) (Nat.le_add_right _ 6) ?_
    exact z_perm (wpermB _ _ _) (la_fgt (kk M1 f M3 hI3))
  · cases h8
  · cases h8
set_option maxRecDepth 20000 in
theorem la_c46 {p : Program} {l : Launch} {e : Env} {s : State} {m : MethodId} {below : List Frame} {meth : Method} {c : Code} {G : fmG} {b n : Nat} {xs : Nat → Int32} {I : fmM → fmM → Prop} (hS : laS_count I) (C : laC p l s m meth c G b n xs) {g g2 : Nat → Nat} {M M2 : fmM} {f : Nat → Int64} {o t : Nat} {i : Int32} {cu su : Nat} (hi : laI n i t) (hcu : cu + 1 ≤ 601024) (hsu : su + 6 ≤ 7293034) (hcu1 : cu + 1 + 1 ≤ 601024) (hsu1 : su + 6 + 6 ≤ 7293034) (hI : I M M2) (kk : ∀ (M' : fmM) (f' : Nat → Int64) (M2' : fmM), I M' M2' → zEv p l e room_1 s m #[.ref b] below meth c G (fun q => s.heap.size ≤ q) 8 (lw_Z below #[.ref b] s) 1940 [some (.ref b), some (.ref (g 0)), some (.ref (g2 0)), some (.ref o), some (.int i), none, none, none] [] (fmL Tx (g, G.2) M' ++ ((o, .inl (G.2.2.1 1, 1, .inr (.inl f'))) :: fmL Tm (g2, G.2) M2')) (cu + 1) (su + 6)) : zEv p l e room_1 s m #[.ref b] below meth c G (fun q => s.heap.size ≤ q) 8 (lw_Z below #[.ref b] s) 1915 [some (.ref b), some (.ref (g 0)), some (.ref (g2 0)), some (.ref o), some (.int i), none, none, none] [] (fmL Tx (g, G.2) M ++ ((o, .inl (G.2.2.1 1, 1, .inr (.inl f))) :: fmL Tm (g2, G.2) M2)) cu su := by
  have h0 := hS M M2 (xs (t + 1)) hI
  refine z_aloadn C.1 (pc := 1915) (n := 1) 1 rfl rfl (fm_dec dtLa_39 20 rfl) ?_
  refine la_arg C (pc := 1916) (v := 1) (t + 1) rfl rfl (hi 1 (by decide)) (by decide) (fm_dec dtLa_39 21 rfl) (fm_dec dtLa_39 22 rfl) (fm_dec dtLa_39 23 rfl) (fm_dec dtLa_39 24 rfl) (fm_dec dtLa_39 25 rfl) ?_
  refine z_callX C.1 (T := Tx) (g := g) (M := M) (rest := (o, .inl (G.2.2.1 1, 1, .inr (.inl f))) :: fmL Tm (g2, G.2) M2) (k := 0) (ci := 10) (d' := 250) (pc := 1922) (As := [.int (xs (t + 1))]) (st := []) cvL_286 (by decide) rfl rfl rfl (by decide) (rm_fr (by decide)) (rm_lo (by decide) (by decide)) (rm_c hcu) (rm_s hsu) (fm_dec dtLa_39 26 rfl) ?_
  refine fmGood.imp (pvGood.fm C.2.2.2.2.2 (by decide) (by decide +kernel) h0) (fun o9 M1 h9 => ?_)
  obtain ⟨o', rfl, h8, h2⟩ := h9
  rcases h8 with ⟨v, rfl⟩ | ⟨h8, -⟩ | ⟨h8, -⟩
  · refine z_then1 ?_
    refine z_pop C.1 (pc := 1925) rfl (fm_dec dtLa_39 27 rfl) ?_
    refine z_aloadn C.1 (pc := 1926) (n := 2) 2 rfl rfl (fm_dec dtLa_39 28 rfl) ?_
    refine la_arg C (pc := 1927) (v := 1) (t + 1) rfl rfl (hi 1 (by decide)) (by decide) (fm_dec dtLa_39 29 rfl) (fm_dec dtLa_40 0 rfl) (fm_dec dtLa_40 1 rfl) (fm_dec dtLa_40 2 rfl) (fm_dec dtLa_40 3 rfl) ?_
    have hcw := hcu
    have hsw := hsu
    refine z_perm (ws := (fmL Tx (g, G.2) M1 ++ ((o, .inl (G.2.2.1 1, 1, .inr (.inl f))) :: fmL Tm (g2, G.2) M2))) (wpermW _ _ _) ?_
    refine la_ref C (pc := 1933) (As := [.int (xs (t + 1))]) (st := []) cvL_289 (by decide +kernel) rfl rfl (Nat.le_of_ble_eq_true rfl) (by decide) hcw hsw (fm_dec dtLa_40 4 rfl) rfl h2 (fun r2 M3 h3 => ?_)
    obtain ⟨⟨v2, rfl⟩, hI3⟩ := h3
    refine z_then1 ?_
    refine z_pop C.1 (pc := 1936) rfl (fm_dec dtLa_40 5 rfl) ?_
    refine z_goto C.1 (pc := 1937) 1940 (by decide) (fm_dec dtLa_40 6 rfl) ?_
    refine z_more (Nat.le_succ _) (Nat.le_add_right _ 6) ?_
    exact z_perm (wpermB _ _ _) (la_fgt (kk M1 f M3 hI3))
  · cases h8
  · cases h8
