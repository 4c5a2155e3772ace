-- A SHELF: its sixteen states by a loop
/-- states and their pieces as they come, by the pairs of their addresses -/
def stOf (G : fmG) (ss : List (Nat × Nat)) : va_W := ss.flatMap (fun x => bState G x.1 x.2)
def rowOf (ss : List (Nat × Nat)) : Nat → Option Nat := fun i => (ss[i]?).map Prod.fst
def stA (x : Nat × Nat) : Nat × va_E := (x.1, .inr (6, [.ref x.2, .int 0, .int 0, .int 0, .int 0, .int 0, .long 0]))
def stB (G : fmG) (x : Nat × Nat) : Nat × va_E := (x.2, .inl (G.2.2.1 0, 8, .inl (fun _ => 0)))
theorem stOf_push {G : fmG} {ss : List (Nat × Nat)} {s p : Nat} : stOf G (ss ++ [(s, p)]) = stOf G ss ++ bState G s p := by
  simp [stOf]
theorem stOf_sum {G : fmG} {f : Nat × va_E → Nat} : ∀ ss : List (Nat × Nat), ((stOf G ss).map f).sum = ((ss.map stA).map f).sum + ((ss.map (stB G)).map f).sum
  | [] => rfl
  | x :: ss => by
    have ih := stOf_sum (G := G) (f := f) ss
    simp only [stOf, List.flatMap_cons, List.map_append, List.map_cons, List.sum_append, List.sum_cons, bState, List.map_nil, List.sum_nil, stA, stB] at ih ⊢
    omega
theorem rowOf_push {ss : List (Nat × Nat)} {s p : Nat} : va_up (rowOf ss) ss.length (some s) = rowOf (ss ++ [(s, p)]) := by
  funext i
  unfold rowOf va_up
  rcases Nat.lt_trichotomy i ss.length with h | h | h
  · rw [if_neg (by omega), List.getElem?_append_left h]
  · subst h; rw [if_pos rfl, List.getElem?_append_right (Nat.le_refl _)]; simp
  · rw [if_neg (by omega), List.getElem?_eq_none (l := ss ++ [(s, p)]) (by simp; omega)]
    show (ss[i]?).map Prod.fst = none
    rw [List.getElem?_eq_none (by omega)]; rfl
theorem k16 : ∀ k, k < 16 → (¬ (16 : Int32) ≤ nI k) ∧ (nI k).toNatClampNeg = k ∧ nI k + 1 = nI (k + 1) := by decide
set_option maxRecDepth 20000 in
set_option maxHeartbeats 1000000 in
theorem k_X5_step {l : Launch} {G : fmG} {mc ms q a1 a3 k cu su : Nat} {f : Nat → Option Nat} {X : va_W} {Q : va_W → Prop} (hk : k < 16) (hc : cu + 2 ≤ mc) (hs : su + 15 ≤ ms)
    (hkk : ∀ s p : Nat, lwEv l G 1 mc ms qX5_init 26 [some (.ref q), some (.int (nI (k + 1)))] [] ((a3, .inl (G.2.2.1 4, 16, .inr (.inr (.inr (.inr (va_up f k (some s))))))) :: (((q, .inr (5, [.ref a1, .ref a3, .int 0])) :: X) ++ bState G s p)) (cu + 1 + 1) (su + 7 + 8) Q) : lwEv l G 1 mc ms qX5_init 26 [some (.ref q), some (.int (nI k))] [] ((a3, .inl (G.2.2.1 4, 16, .inr (.inr (.inr (.inr (f)))))) :: ((q, .inr (5, [.ref a1, .ref a3, .int 0])) :: X)) cu su Q := by
  obtain ⟨h1, h2, h3⟩ := k16 k hk
  refine lw_iloadn (pc := 26) (n := 1) 1 rfl rfl (fm_dec dtX5_init 13 rfl) ?_
  refine lw_bipush (pc := 27) (v := 16) (by decide) (fm_dec dtX5_init 14 rfl) ?_
  refine lw_icmp_ge (pc := 29) 51 (by decide) (fm_dec dtX5_init 15 rfl) (fun hc29 => absurd hc29 h1) (fun _ => ?_)
  refine lw_aloadn (pc := 32) (n := 0) 0 rfl rfl (fm_dec dtX5_init 16 rfl) ?_
  refine lw_get (pc := 33) (i := 0) (j := 1) (ci := 5) (w0 := [(a3, .inl (G.2.2.1 4, 16, .inr (.inr (.inr (.inr (f))))))]) (xs := (q, .inr (5, [.ref a1, .ref a3, .int 0])) :: X) rfl fl_X5_18 rfl (fm_dec dtX5_init 17 rfl) ?_
  refine lw_iloadn (pc := 36) (n := 1) 1 rfl rfl (fm_dec dtX5_init 18 rfl) ?_
  refine lw_new (pc := 37) (ci := 6) (N := 7) (fs := [.null, .int 0, .int 0, .int 0, .int 0, .int 0, .long 0]) fk_6 rfl (fm_in 344 (by decide +kernel) rfl) (fm_in 272 (by decide +kernel) rfl) ni_X6 df_6 (by omega) (by omega) (fm_dec dtX5_init 19 rfl) (fun s => ?_)
  refine lw_dup (pc := 40) rfl (fm_dec dtX5_init 20 rfl) ?_
  refine lw_init (y' := qX6_init) (d' := 0) (mc' := 1) (ms' := 8) (pc := 41) (As := []) (st := [.ref s, .int (nI k), .ref a3]) ⟨fm_in 345 (by decide +kernel) rfl, ni_X6, nc_X6_init, nd_X6_init, by decide⟩ nm_X6_init rfl rfl rfl rfl (Nat.le_of_ble_eq_true rfl) (by decide) (by omega) (by omega) (fm_dec dtX5_init 21 rfl) ?_
  refine k_X6_init (fun p => ?_)
  refine lw_astm (pc := 44) (t := 4) (ci := 6) (r := (RX6, TX6, 7)) (w1 := ((q, .inr (5, [.ref a1, .ref a3, .int 0])) :: X) ++ bState G s p) (fun _ => rfl) (List.mem_append_right _ List.mem_cons_self) rfl (vp_in_nI hk (by decide)) (fm_dec dtX5_init 22 rfl) ?_
  rw [h2]
  refine lw_iincc (pc := 45) 1 1 (by decide) rfl (by decide) rfl (fm_dec dtX5_init 23 rfl) ?_
  dsimp only [List.set_cons_zero, List.set_cons_succ]
  rw [h3]
  refine lw_goto (pc := 48) 26 (by decide) (fm_dec dtX5_init 24 rfl) ?_
  exact hkk s p
theorem k_X5_loop {l : Launch} {G : fmG} {mc ms q a1 a3 : Nat} {X : va_W} {Q : va_W → Prop} (hq : ∀ ss : List (Nat × Nat), ss.length = 16 → lwEv l G 1 mc ms qX5_init 51 [some (.ref q), some (.int (nI 16))] [] ((a3, .inl (G.2.2.1 4, 16, .inr (.inr (.inr (.inr (rowOf ss)))))) :: (((q, .inr (5, [.ref a1, .ref a3, .int 0])) :: X) ++ stOf G ss)) mc ms Q) : ∀ (n : Nat) (ss : List (Nat × Nat)) (cu su : Nat), ss.length + n = 16 → cu + 2 * n ≤ mc → su + 15 * n ≤ ms → lwEv l G 1 mc ms qX5_init 26 [some (.ref q), some (.int (nI ss.length))] [] ((a3, .inl (G.2.2.1 4, 16, .inr (.inr (.inr (.inr (rowOf ss)))))) :: (((q, .inr (5, [.ref a1, .ref a3, .int 0])) :: X) ++ stOf G ss)) cu su Q := by
  intro n
  induction n with
  | zero =>
    intro ss cu su h1 h2 h3
    have e : ss.length = 16 := by omega
    rw [e]
    refine lw_iloadn (pc := 26) (n := 1) 1 rfl rfl (fm_dec dtX5_init 13 rfl) ?_
    refine lw_bipush (pc := 27) (v := 16) (by decide) (fm_dec dtX5_init 14 rfl) ?_
    refine lw_icmp_ge (pc := 29) 51 (by decide) (fm_dec dtX5_init 15 rfl) (fun _ => ?_) (fun hc29 => absurd (show (16 : Int32) ≤ nI 16 by decide) hc29)
    exact lw_more (by omega) (by omega) (hq ss e)
  | succ n ih =>
    intro ss cu su h1 h2 h3
    refine k_X5_step (X := X ++ stOf G ss) (by omega) (by omega) (by omega) (fun s p => ?_)
    have h := ih (ss ++ [(s, p)]) (cu + 1 + 1) (su + 7 + 8) (by simp; omega) (by omega) (by omega)
    rw [show (ss ++ [(s, p)]).length = ss.length + 1 by simp] at h
    refine lw_ws ?_ h
    rw [rowOf_push (p := p), stOf_push, List.cons_append, List.append_assoc]; rfl

def bShelf (G : fmG) (q a1 a2 a3 : Nat) (ss : List (Nat × Nat)) : va_W := [(q, .inr (5, [.ref a1, .ref a3, .int 0])), (a1, .inr (6, [.ref a2, .int 0, .int 0, .int 0, .int 0, .int 0, .long 0])), (a2, .inl (G.2.2.1 0, 8, .inl (fun _ => 0))), (a3, .inl (G.2.2.1 4, 16, .inr (.inr (.inr (.inr (rowOf ss))))))] ++ (ss.map stA ++ ss.map (stB G))
set_option maxRecDepth 20000 in
set_option maxHeartbeats 1000000 in
theorem k_X5_init {l : Launch} {G : fmG} {w0 : va_W} {q : Nat} {Q : va_W → Prop} (hq : ∀ (a1 a2 a3 : Nat) (ss : List (Nat × Nat)), ss.length = 16 → Q (w0 ++ bShelf G q a1 a2 a3 ss)) : lwGood l G 1 35 271 qX5_init [.ref q] (w0 ++ [(q, .inr (5, [.null, .null, .int 0]))]) Q := by
  refine lwGood_of (by decide +kernel) (Nat.le_of_ble_eq_true rfl) ?_
  show lwEv l G 1 35 271 qX5_init 0 [some (.ref q), none] [] (w0 ++ [(q, .inr (5, [.null, .null, .int 0]))]) 0 0 Q
  refine lw_aloadn (pc := 0) (n := 0) 0 rfl rfl (fm_dec dtX5_init 0 rfl) ?_
  refine lw_obj (pc := 1) (fm_in 343 (by decide +kernel) rfl) (Nat.le_of_ble_eq_true rfl) (fm_dec dtX5_init 1 rfl) ?_
  refine lw_aloadn (pc := 4) (n := 0) 0 rfl rfl (fm_dec dtX5_init 2 rfl) ?_
  refine lw_new (pc := 5) (ci := 6) (N := 7) (fs := [.null, .int 0, .int 0, .int 0, .int 0, .int 0, .long 0]) fk_6 rfl (fm_in 344 (by decide +kernel) rfl) (fm_in 272 (by decide +kernel) rfl) ni_X6 df_6 (by decide) (by decide) (fm_dec dtX5_init 3 rfl) (fun a1 => ?_)
  refine lw_assoc ?_
  show lwEv l G 1 35 271 qX5_init 8 [some (.ref q), none] [.ref a1, .ref q] (w0 ++ [(q, .inr (5, [.null, .null, .int 0])), (a1, .inr (6, [.null, .int 0, .int 0, .int 0, .int 0, .int 0, .long 0]))]) 1 7 Q
  refine lw_dup (pc := 8) rfl (fm_dec dtX5_init 4 rfl) ?_
  refine lw_init (y' := qX6_init) (d' := 0) (mc' := 1) (ms' := 8) (pc := 9) (As := []) (st := [.ref a1, .ref q]) ⟨fm_in 345 (by decide +kernel) rfl, ni_X6, nc_X6_init, nd_X6_init, by decide⟩ nm_X6_init rfl rfl rfl rfl (Nat.le_of_ble_eq_true rfl) (by decide) (by decide) (by decide) (fm_dec dtX5_init 5 rfl) ?_
  refine lwGood_assoc (w1 := w0) (w2 := [(q, .inr (5, [.null, .null, .int 0]))]) (w3 := [(a1, .inr (6, [.null, .int 0, .int 0, .int 0, .int 0, .int 0, .long 0]))]) ?_
  refine k_X6_init (fun a2 => ?_)
  refine lw_assoc ?_
  show lwEv l G 1 35 271 qX5_init 12 [some (.ref q), none] [.ref a1, .ref q] (w0 ++ ([(q, .inr (5, [.null, .null, .int 0]))] ++ bState G a1 a2)) 2 15 Q
  refine lw_put (pc := 12) (i := 0) (j := 0) (ci := 5) (w0 := w0) rfl fl_X5_12 (fun _ => ⟨rfl, fun r hr => by cases hr; rfl⟩) rfl rfl (fm_lt rfl) (fm_dec dtX5_init 6 rfl) ?_
  show lwEv l G 1 35 271 qX5_init 15 [some (.ref q), none] [] (w0 ++ ([(q, .inr (5, [.ref a1, .null, .int 0]))] ++ bState G a1 a2)) 2 15 Q
  refine lw_aloadn (pc := 15) (n := 0) 0 rfl rfl (fm_dec dtX5_init 7 rfl) ?_
  refine lw_bipush (pc := 16) (v := 16) (by decide) (fm_dec dtX5_init 8 rfl) ?_
  refine lw_newq (pc := 18) (t := 4) (N := 16) (C := "LifeDrawer$State") (fun _ => rfl) (fm_in 344 (by decide +kernel) rfl) (fun _ _ h => h.2.2.1) (by decide) (by decide) (by decide) (by decide) (by decide) (fm_dec dtX5_init 9 rfl) (fun a3 => ?_)
  refine lw_assoc ?_
  show lwEv l G 1 35 271 qX5_init 21 [some (.ref q), none] [.ref a3, .ref q] (w0 ++ (([(q, .inr (5, [.ref a1, .null, .int 0]))] ++ bState G a1 a2) ++ [(a3, .inl (G.2.2.1 4, 16, .inr (.inr (.inr (.inr (fun _ => none))))))])) 3 31 Q
  refine lw_put (pc := 21) (i := 0) (j := 1) (ci := 5) (w0 := w0) rfl fl_X5_18 (fun _ => ⟨rfl, fun r hr => by cases hr; rfl⟩) rfl rfl (fm_lt rfl) (fm_dec dtX5_init 10 rfl) ?_
  show lwEv l G 1 35 271 qX5_init 24 [some (.ref q), none] [] (w0 ++ (([(q, .inr (5, [.ref a1, .ref a3, .int 0]))] ++ bState G a1 a2) ++ [(a3, .inl (G.2.2.1 4, 16, .inr (.inr (.inr (.inr (fun _ => none))))))])) 3 31 Q
  refine lw_iconst (pc := 24) (v := 0) (by decide) (fm_dec dtX5_init 11 rfl) ?_
  refine lw_istoren (pc := 25) (n := 1) 1 rfl (by decide) rfl (fm_dec dtX5_init 12 rfl) ?_
  show lwEv l G 1 35 271 qX5_init 26 [some (.ref q), some (.int 0)] [] (w0 ++ (([(q, .inr (5, [.ref a1, .ref a3, .int 0]))] ++ bState G a1 a2) ++ [(a3, .inl (G.2.2.1 4, 16, .inr (.inr (.inr (.inr (fun _ => none))))))])) 3 31 Q
  refine lw_perm (ws' := (a3, .inl (G.2.2.1 4, 16, .inr (.inr (.inr (.inr (rowOf [])))))) :: (((q, .inr (5, [.ref a1, .ref a3, .int 0])) :: (w0 ++ bState G a1 a2)) ++ stOf G [])) (fm_sums _ _ (fun f => ?_)) ?_
  · rw [show (fun _ => none : Nat → Option Nat) = rowOf [] from by funext i; simp [rowOf]]
    simp only [stOf, List.flatMap_nil, List.map_append, List.map_cons, List.map_nil, List.sum_append, List.sum_cons, List.sum_nil]; omega
  refine k_X5_loop (fun ss hs => ?_) 16 [] 3 31 rfl (by decide) (by decide)
  refine lw_perm (ws' := w0 ++ bShelf G q a1 a2 a3 ss) (fm_sums _ _ (fun f => ?_)) ?_
  · simp only [bShelf, bState, List.map_append, List.map_cons, List.map_nil, List.sum_append, List.sum_cons, List.sum_nil, stOf_sum]; omega
  exact lw_return (pc := 51) rfl (Nat.le_refl _) (Nat.le_refl _) (fm_dec dtX5_init 25 rfl) (hq a1 a2 a3 ss hs)
