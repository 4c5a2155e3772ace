-- CONSTRUCTORS OF THE CLASS, leaves first
theorem fm_lt {a b : Nat} (h : Nat.ble (a + 1) b = true) : a < b := Nat.le_of_ble_eq_true h
theorem lwGood_assoc {l : Launch} {G : fmG} {d mc ms : Nat} {y : fmY} {args : List Value} {w1 w2 w3 : va_W} {Q : va_W → Prop} (k : lwGood l G d mc ms y args ((w1 ++ w2) ++ w3) Q) : lwGood l G d mc ms y args (w1 ++ (w2 ++ w3)) Q := by rw [← List.append_assoc]; exact k
theorem df_0 : ∀ j, j < 3 → defaultValue (fmTy 0 j) = vp_V [.null, .null, .null] j := by decide +kernel
theorem df_1 : ∀ j, j < 5 → defaultValue (fmTy 1 j) = vp_V [.null, .null, .null, .int 0, .int 0] j := by decide +kernel
theorem df_2 : ∀ j, j < 3 → defaultValue (fmTy 2 j) = vp_V [.int 0, .int 0, .int 0] j := by decide +kernel
theorem df_3 : ∀ j, j < 7 → defaultValue (fmTy 3 j) = vp_V [.null, .null, .null, .null, .null, .int 0, .long 0] j := by decide +kernel
theorem df_4 : ∀ j, j < 5 → defaultValue (fmTy 4 j) = vp_V [.null, .int 0, .null, .null, .int 0] j := by decide +kernel
theorem df_5 : ∀ j, j < 3 → defaultValue (fmTy 5 j) = vp_V [.null, .null, .int 0] j := by decide +kernel
theorem df_6 : ∀ j, j < 7 → defaultValue (fmTy 6 j) = vp_V [.null, .int 0, .int 0, .int 0, .int 0, .int 0, .long 0] j := by decide +kernel
theorem df_7 : ∀ j, j < 6 → defaultValue (fmTy 7 j) = vp_V [.null, .int 0, .int 0, .int 0, .int 0, .int 0] j := by decide +kernel
theorem df_8 : ∀ j, j < 15 → defaultValue (fmTy 8 j) = vp_V [.null, .null, .null, .null, .null, .null, .null, .null, .null, .int 0, .int 0, .int 0, .int 0, .int 0, .int 0] j := by decide +kernel
theorem df_9 : ∀ j, j < 7 → defaultValue (fmTy 9 j) = vp_V [.null, .null, .null, .int 0, .int 0, .int 0, .int 0] j := by decide +kernel
theorem df_10 : ∀ j, j < 17 → defaultValue (fmTy 10 j) = vp_V [.null, .null, .null, .null, .null, .null, .null, .null, .null, .null, .null, .null, .null, .int 0, .int 0, .int 0, .int 0] j := by decide +kernel
theorem df_11 : ∀ j, j < 49 → defaultValue (fmTy 11 j) = vp_V [.int 0, .int 0, .int 0, .int 0, .int 0, .int 0, .int 0, .int 0, .int 0, .null, .null, .null, .null, .null, .null, .null, .null, .int 0, .int 0, .null, .null, .null, .null, .null, .null, .null, .int 0, .null, .null, .null, .null, .int 0, .int 0, .int 0, .int 0, .int 0, .int 0, .int 0, .null, .null, .null, .null, .null, .long 0, .null, .null, .int 0, .int 0, .int 0] j := by decide +kernel
/-- an array of arrays of ints, and its rows -/
def bRows (G : fmG) (N K a : Nat) (r : Nat → Nat) : va_W := (a, .inl (G.2.2.1 5, N, .inr (.inr (.inr (.inr (fun i => if i < N then some (r i) else none)))))) :: (List.range N).map (fun i => (r i, .inl (G.2.2.1 0, K, .inl (fun _ => 0))))

def bTape (G : fmG) (q a1 : Nat) : va_W := [(q, .inr (7, [.ref a1, .int 0, .int 0, .int 0, .int 0, .int (-1)])), (a1, .inl (G.2.2.1 2, 600, .inl (fun _ => 0)))]
set_option maxRecDepth 20000 in
set_option maxHeartbeats 1000000 in
theorem k_X7_init {l : Launch} {G : fmG} {w0 : va_W} {q : Nat} {Q : va_W → Prop} (hq : ∀ a1 : Nat, Q (w0 ++ bTape G q a1)) : lwGood l G 0 1 600 qX7_init [.ref q] (w0 ++ [(q, .inr (7, [.null, .int 0, .int 0, .int 0, .int 0, .int 0]))]) Q := by
  refine lwGood_of (by decide +kernel) (Nat.le_of_ble_eq_true rfl) ?_
  show lwEv l G 0 1 600 qX7_init 0 [some (.ref q)] [] (w0 ++ [(q, .inr (7, [.null, .int 0, .int 0, .int 0, .int 0, .int 0]))]) 0 0 Q
  refine lw_aloadn (pc := 0) (n := 0) 0 rfl rfl (fm_dec dtX7_init 0 rfl) ?_
  refine lw_obj (pc := 1) (fm_in 39 (by decide +kernel) rfl) (Nat.le_of_ble_eq_true rfl) (fm_dec dtX7_init 1 rfl) ?_
  refine lw_aloadn (pc := 4) (n := 0) 0 rfl rfl (fm_dec dtX7_init 2 rfl) ?_
  refine lw_sipush (pc := 5) (v := 600) (by decide) (fm_dec dtX7_init 3 rfl) ?_
  refine lw_newB (pc := 8) (N := 600) (by decide) (by decide) (by decide) (by decide) (by decide) (fm_dec dtX7_init 4 rfl) (fun a1 => ?_)
  refine lw_assoc ?_
  show lwEv l G 0 1 600 qX7_init 10 [some (.ref q)] [.ref a1, .ref q] (w0 ++ [(q, .inr (7, [.null, .int 0, .int 0, .int 0, .int 0, .int 0])), (a1, .inl (G.2.2.1 2, 600, .inl (fun _ => 0)))]) 1 600 Q
  refine lw_put (pc := 10) (i := 0) (j := 0) (ci := 7) (w0 := w0) rfl fl_X7_9 (fun _ => ⟨rfl, fun r hr => by cases hr; rfl⟩) rfl rfl (fm_lt rfl) (fm_dec dtX7_init 5 rfl) ?_
  show lwEv l G 0 1 600 qX7_init 13 [some (.ref q)] [] (w0 ++ [(q, .inr (7, [.ref a1, .int 0, .int 0, .int 0, .int 0, .int 0])), (a1, .inl (G.2.2.1 2, 600, .inl (fun _ => 0)))]) 1 600 Q
  refine lw_aloadn (pc := 13) (n := 0) 0 rfl rfl (fm_dec dtX7_init 6 rfl) ?_
  refine lw_iconst (pc := 14) (v := (-1)) (by decide) (fm_dec dtX7_init 7 rfl) ?_
  refine lw_put (pc := 15) (i := 0) (j := 5) (ci := 7) (w0 := w0) rfl fl_X7_15 (fun _ => ⟨rfl, fun r hr => by cases hr; rfl⟩) rfl rfl (fm_lt rfl) (fm_dec dtX7_init 8 rfl) ?_
  show lwEv l G 0 1 600 qX7_init 18 [some (.ref q)] [] (w0 ++ [(q, .inr (7, [.ref a1, .int 0, .int 0, .int 0, .int 0, .int (-1)])), (a1, .inl (G.2.2.1 2, 600, .inl (fun _ => 0)))]) 1 600 Q
  exact lw_return (pc := 18) rfl (by decide) (by decide) (fm_dec dtX7_init 9 rfl) (hq a1)

def bPage (G : fmG) (q : Nat) : va_W := [(q, .inr (2, [.int 0, .int 0, .int 0]))]
set_option maxRecDepth 20000 in
set_option maxHeartbeats 1000000 in
theorem k_X2_init {l : Launch} {G : fmG} {w0 : va_W} {q : Nat} {Q : va_W → Prop} (hq : Q (w0 ++ bPage G q)) : lwGood l G 0 0 0 qX2_init [.ref q] (w0 ++ [(q, .inr (2, [.int 0, .int 0, .int 0]))]) Q := by
  refine lwGood_of (by decide +kernel) (Nat.le_of_ble_eq_true rfl) ?_
  show lwEv l G 0 0 0 qX2_init 0 [some (.ref q)] [] (w0 ++ [(q, .inr (2, [.int 0, .int 0, .int 0]))]) 0 0 Q
  refine lw_aloadn (pc := 0) (n := 0) 0 rfl rfl (fm_dec dtX2_init 0 rfl) ?_
  refine lw_obj (pc := 1) (fm_in 175 (by decide +kernel) rfl) (Nat.le_of_ble_eq_true rfl) (fm_dec dtX2_init 1 rfl) ?_
  exact lw_return (pc := 4) rfl (by decide) (by decide) (fm_dec dtX2_init 2 rfl) (hq)

def bWork (G : fmG) (q a1 a2 a3 : Nat) : va_W := [(q, .inr (9, [.ref a1, .ref a2, .ref a3, .int 0, .int 0, .int 0, .int 0])), (a1, .inl (G.2.2.1 0, 150, .inl (fun _ => 0))), (a2, .inl (G.2.2.1 0, 150, .inl (fun _ => 0))), (a3, .inl (G.2.2.1 0, 150, .inl (fun _ => 0)))]
set_option maxRecDepth 20000 in
set_option maxHeartbeats 1000000 in
theorem k_X9_init {l : Launch} {G : fmG} {w0 : va_W} {q : Nat} {Q : va_W → Prop} (hq : ∀ a1 a2 a3 : Nat, Q (w0 ++ bWork G q a1 a2 a3)) : lwGood l G 0 3 450 qX9_init [.ref q] (w0 ++ [(q, .inr (9, [.null, .null, .null, .int 0, .int 0, .int 0, .int 0]))]) Q := by
  refine lwGood_of (by decide +kernel) (Nat.le_of_ble_eq_true rfl) ?_
  show lwEv l G 0 3 450 qX9_init 0 [some (.ref q)] [] (w0 ++ [(q, .inr (9, [.null, .null, .null, .int 0, .int 0, .int 0, .int 0]))]) 0 0 Q
  refine lw_aloadn (pc := 0) (n := 0) 0 rfl rfl (fm_dec dtX9_init 0 rfl) ?_
  refine lw_obj (pc := 1) (fm_in 192 (by decide +kernel) rfl) (Nat.le_of_ble_eq_true rfl) (fm_dec dtX9_init 1 rfl) ?_
  refine lw_aloadn (pc := 4) (n := 0) 0 rfl rfl (fm_dec dtX9_init 2 rfl) ?_
  refine lw_sipush (pc := 5) (v := 150) (by decide) (fm_dec dtX9_init 3 rfl) ?_
  refine lw_newI (pc := 8) (N := 150) (by decide) (by decide) (by decide) (by decide) (by decide) (fm_dec dtX9_init 4 rfl) (fun a1 => ?_)
  refine lw_assoc ?_
  show lwEv l G 0 3 450 qX9_init 10 [some (.ref q)] [.ref a1, .ref q] (w0 ++ [(q, .inr (9, [.null, .null, .null, .int 0, .int 0, .int 0, .int 0])), (a1, .inl (G.2.2.1 0, 150, .inl (fun _ => 0)))]) 1 150 Q
  refine lw_put (pc := 10) (i := 0) (j := 0) (ci := 9) (w0 := w0) rfl fl_X9_9 (fun _ => ⟨rfl, fun r hr => by cases hr; rfl⟩) rfl rfl (fm_lt rfl) (fm_dec dtX9_init 5 rfl) ?_
  show lwEv l G 0 3 450 qX9_init 13 [some (.ref q)] [] (w0 ++ [(q, .inr (9, [.ref a1, .null, .null, .int 0, .int 0, .int 0, .int 0])), (a1, .inl (G.2.2.1 0, 150, .inl (fun _ => 0)))]) 1 150 Q
  refine lw_aloadn (pc := 13) (n := 0) 0 rfl rfl (fm_dec dtX9_init 6 rfl) ?_
  refine lw_sipush (pc := 14) (v := 150) (by decide) (fm_dec dtX9_init 7 rfl) ?_
  refine lw_newI (pc := 17) (N := 150) (by decide) (by decide) (by decide) (by decide) (by decide) (fm_dec dtX9_init 8 rfl) (fun a2 => ?_)
  refine lw_assoc ?_
  show lwEv l G 0 3 450 qX9_init 19 [some (.ref q)] [.ref a2, .ref q] (w0 ++ [(q, .inr (9, [.ref a1, .null, .null, .int 0, .int 0, .int 0, .int 0])), (a1, .inl (G.2.2.1 0, 150, .inl (fun _ => 0))), (a2, .inl (G.2.2.1 0, 150, .inl (fun _ => 0)))]) 2 300 Q
  refine lw_put (pc := 19) (i := 0) (j := 1) (ci := 9) (w0 := w0) rfl fl_X9_15 (fun _ => ⟨rfl, fun r hr => by cases hr; rfl⟩) rfl rfl (fm_lt rfl) (fm_dec dtX9_init 9 rfl) ?_
  show lwEv l G 0 3 450 qX9_init 22 [some (.ref q)] [] (w0 ++ [(q, .inr (9, [.ref a1, .ref a2, .null, .int 0, .int 0, .int 0, .int 0])), (a1, .inl (G.2.2.1 0, 150, .inl (fun _ => 0))), (a2, .inl (G.2.2.1 0, 150, .inl (fun _ => 0)))]) 2 300 Q
  refine lw_aloadn (pc := 22) (n := 0) 0 rfl rfl (fm_dec dtX9_init 10 rfl) ?_
  refine lw_sipush (pc := 23) (v := 150) (by decide) (fm_dec dtX9_init 11 rfl) ?_
  refine lw_newI (pc := 26) (N := 150) (by decide) (by decide) (by decide) (by decide) (by decide) (fm_dec dtX9_init 12 rfl) (fun a3 => ?_)
  refine lw_assoc ?_
  show lwEv l G 0 3 450 qX9_init 28 [some (.ref q)] [.ref a3, .ref q] (w0 ++ [(q, .inr (9, [.ref a1, .ref a2, .null, .int 0, .int 0, .int 0, .int 0])), (a1, .inl (G.2.2.1 0, 150, .inl (fun _ => 0))), (a2, .inl (G.2.2.1 0, 150, .inl (fun _ => 0))), (a3, .inl (G.2.2.1 0, 150, .inl (fun _ => 0)))]) 3 450 Q
  refine lw_put (pc := 28) (i := 0) (j := 2) (ci := 9) (w0 := w0) rfl fl_X9_18 (fun _ => ⟨rfl, fun r hr => by cases hr; rfl⟩) rfl rfl (fm_lt rfl) (fm_dec dtX9_init 13 rfl) ?_
  show lwEv l G 0 3 450 qX9_init 31 [some (.ref q)] [] (w0 ++ [(q, .inr (9, [.ref a1, .ref a2, .ref a3, .int 0, .int 0, .int 0, .int 0])), (a1, .inl (G.2.2.1 0, 150, .inl (fun _ => 0))), (a2, .inl (G.2.2.1 0, 150, .inl (fun _ => 0))), (a3, .inl (G.2.2.1 0, 150, .inl (fun _ => 0)))]) 3 450 Q
  exact lw_return (pc := 31) rfl (by decide) (by decide) (fm_dec dtX9_init 14 rfl) (hq a1 a2 a3)

def bDesk (G : fmG) (q u v a1 : Nat) : va_W := [(q, .inr (0, [.ref u, .ref v, .ref a1])), (a1, .inl (G.2.2.1 1, 8, .inr (.inl (fun _ => 0))))]
set_option maxRecDepth 20000 in
set_option maxHeartbeats 1000000 in
theorem k_X0_init {l : Launch} {G : fmG} {w0 : va_W} {q u v : Nat} {Q : va_W → Prop} (hq : ∀ a1 : Nat, Q (w0 ++ bDesk G q u v a1)) : lwGood l G 0 1 8 qX0_init [.ref q, .ref u, .ref v] (w0 ++ [(q, .inr (0, [.null, .null, .null]))]) Q := by
  refine lwGood_of (by decide +kernel) (Nat.le_of_ble_eq_true rfl) ?_
  show lwEv l G 0 1 8 qX0_init 0 [some (.ref q), some (.ref u), some (.ref v)] [] (w0 ++ [(q, .inr (0, [.null, .null, .null]))]) 0 0 Q
  refine lw_aloadn (pc := 0) (n := 0) 0 rfl rfl (fm_dec dtX0_init 0 rfl) ?_
  refine lw_obj (pc := 1) (fm_in 223 (by decide +kernel) rfl) (Nat.le_of_ble_eq_true rfl) (fm_dec dtX0_init 1 rfl) ?_
  refine lw_aloadn (pc := 4) (n := 0) 0 rfl rfl (fm_dec dtX0_init 2 rfl) ?_
  refine lw_bipush (pc := 5) (v := 8) (by decide) (fm_dec dtX0_init 3 rfl) ?_
  refine lw_newJ (pc := 7) (N := 8) (by decide) (by decide) (by decide) (by decide) (by decide) (fm_dec dtX0_init 4 rfl) (fun a1 => ?_)
  refine lw_assoc ?_
  show lwEv l G 0 1 8 qX0_init 9 [some (.ref q), some (.ref u), some (.ref v)] [.ref a1, .ref q] (w0 ++ [(q, .inr (0, [.null, .null, .null])), (a1, .inl (G.2.2.1 1, 8, .inr (.inl (fun _ => 0))))]) 1 8 Q
  refine lw_put (pc := 9) (i := 0) (j := 2) (ci := 0) (w0 := w0) rfl fl_X0_9 (fun _ => ⟨rfl, fun r hr => by cases hr; rfl⟩) rfl rfl (fm_lt rfl) (fm_dec dtX0_init 5 rfl) ?_
  show lwEv l G 0 1 8 qX0_init 12 [some (.ref q), some (.ref u), some (.ref v)] [] (w0 ++ [(q, .inr (0, [.null, .null, .ref a1])), (a1, .inl (G.2.2.1 1, 8, .inr (.inl (fun _ => 0))))]) 1 8 Q
  refine lw_aloadn (pc := 12) (n := 0) 0 rfl rfl (fm_dec dtX0_init 6 rfl) ?_
  refine lw_aloadn (pc := 13) (n := 1) 1 rfl rfl (fm_dec dtX0_init 7 rfl) ?_
  refine lw_put (pc := 14) (i := 0) (j := 0) (ci := 0) (w0 := w0) rfl fl_X0_15 (fun _ => ⟨rfl, fun r hr => by cases hr; rfl⟩) rfl rfl (fm_lt rfl) (fm_dec dtX0_init 8 rfl) ?_
  show lwEv l G 0 1 8 qX0_init 17 [some (.ref q), some (.ref u), some (.ref v)] [] (w0 ++ [(q, .inr (0, [.ref u, .null, .ref a1])), (a1, .inl (G.2.2.1 1, 8, .inr (.inl (fun _ => 0))))]) 1 8 Q
  refine lw_aloadn (pc := 17) (n := 0) 0 rfl rfl (fm_dec dtX0_init 9 rfl) ?_
  refine lw_aloadn (pc := 18) (n := 2) 2 rfl rfl (fm_dec dtX0_init 10 rfl) ?_
  refine lw_put (pc := 19) (i := 0) (j := 1) (ci := 0) (w0 := w0) rfl fl_X0_19 (fun _ => ⟨rfl, fun r hr => by cases hr; rfl⟩) rfl rfl (fm_lt rfl) (fm_dec dtX0_init 11 rfl) ?_
  show lwEv l G 0 1 8 qX0_init 22 [some (.ref q), some (.ref u), some (.ref v)] [] (w0 ++ [(q, .inr (0, [.ref u, .ref v, .ref a1])), (a1, .inl (G.2.2.1 1, 8, .inr (.inl (fun _ => 0))))]) 1 8 Q
  exact lw_return (pc := 22) rfl (by decide) (by decide) (fm_dec dtX0_init 12 rfl) (hq a1)

def bPlan (G : fmG) (q u a1 a2 a3 a4 : Nat) : va_W := [(q, .inr (3, [.ref u, .ref a1, .ref a2, .ref a3, .ref a4, .int 0, .long 0])), (a1, .inl (G.2.2.1 1, 2197, .inr (.inl (fun _ => 0)))), (a2, .inl (G.2.2.1 1, 8, .inr (.inl (fun _ => 0)))), (a3, .inl (G.2.2.1 0, 24, .inl (fun _ => 0))), (a4, .inl (G.2.2.1 0, 3, .inl (fun _ => 0)))]
set_option maxRecDepth 20000 in
set_option maxHeartbeats 1000000 in
theorem k_X3_init {l : Launch} {G : fmG} {w0 : va_W} {q u : Nat} {Q : va_W → Prop} (hq : ∀ a1 a2 a3 a4 : Nat, Q (w0 ++ bPlan G q u a1 a2 a3 a4)) : lwGood l G 0 4 2232 qX3_init [.ref q, .ref u] (w0 ++ [(q, .inr (3, [.null, .null, .null, .null, .null, .int 0, .long 0]))]) Q := by
  refine lwGood_of (by decide +kernel) (Nat.le_of_ble_eq_true rfl) ?_
  show lwEv l G 0 4 2232 qX3_init 0 [some (.ref q), some (.ref u)] [] (w0 ++ [(q, .inr (3, [.null, .null, .null, .null, .null, .int 0, .long 0]))]) 0 0 Q
  refine lw_aloadn (pc := 0) (n := 0) 0 rfl rfl (fm_dec dtX3_init 0 rfl) ?_
  refine lw_obj (pc := 1) (fm_in 242 (by decide +kernel) rfl) (Nat.le_of_ble_eq_true rfl) (fm_dec dtX3_init 1 rfl) ?_
  refine lw_aloadn (pc := 4) (n := 0) 0 rfl rfl (fm_dec dtX3_init 2 rfl) ?_
  refine lw_sipush (pc := 5) (v := 2197) (by decide) (fm_dec dtX3_init 3 rfl) ?_
  refine lw_newJ (pc := 8) (N := 2197) (by decide) (by decide) (by decide) (by decide) (by decide) (fm_dec dtX3_init 4 rfl) (fun a1 => ?_)
  refine lw_assoc ?_
  show lwEv l G 0 4 2232 qX3_init 10 [some (.ref q), some (.ref u)] [.ref a1, .ref q] (w0 ++ [(q, .inr (3, [.null, .null, .null, .null, .null, .int 0, .long 0])), (a1, .inl (G.2.2.1 1, 2197, .inr (.inl (fun _ => 0))))]) 1 2197 Q
  refine lw_put (pc := 10) (i := 0) (j := 1) (ci := 3) (w0 := w0) rfl fl_X3_11 (fun _ => ⟨rfl, fun r hr => by cases hr; rfl⟩) rfl rfl (fm_lt rfl) (fm_dec dtX3_init 5 rfl) ?_
  show lwEv l G 0 4 2232 qX3_init 13 [some (.ref q), some (.ref u)] [] (w0 ++ [(q, .inr (3, [.null, .ref a1, .null, .null, .null, .int 0, .long 0])), (a1, .inl (G.2.2.1 1, 2197, .inr (.inl (fun _ => 0))))]) 1 2197 Q
  refine lw_aloadn (pc := 13) (n := 0) 0 rfl rfl (fm_dec dtX3_init 6 rfl) ?_
  refine lw_bipush (pc := 14) (v := 8) (by decide) (fm_dec dtX3_init 7 rfl) ?_
  refine lw_newJ (pc := 16) (N := 8) (by decide) (by decide) (by decide) (by decide) (by decide) (fm_dec dtX3_init 8 rfl) (fun a2 => ?_)
  refine lw_assoc ?_
  show lwEv l G 0 4 2232 qX3_init 18 [some (.ref q), some (.ref u)] [.ref a2, .ref q] (w0 ++ [(q, .inr (3, [.null, .ref a1, .null, .null, .null, .int 0, .long 0])), (a1, .inl (G.2.2.1 1, 2197, .inr (.inl (fun _ => 0)))), (a2, .inl (G.2.2.1 1, 8, .inr (.inl (fun _ => 0))))]) 2 2205 Q
  refine lw_put (pc := 18) (i := 0) (j := 2) (ci := 3) (w0 := w0) rfl fl_X3_15 (fun _ => ⟨rfl, fun r hr => by cases hr; rfl⟩) rfl rfl (fm_lt rfl) (fm_dec dtX3_init 9 rfl) ?_
  show lwEv l G 0 4 2232 qX3_init 21 [some (.ref q), some (.ref u)] [] (w0 ++ [(q, .inr (3, [.null, .ref a1, .ref a2, .null, .null, .int 0, .long 0])), (a1, .inl (G.2.2.1 1, 2197, .inr (.inl (fun _ => 0)))), (a2, .inl (G.2.2.1 1, 8, .inr (.inl (fun _ => 0))))]) 2 2205 Q
  refine lw_aloadn (pc := 21) (n := 0) 0 rfl rfl (fm_dec dtX3_init 10 rfl) ?_
  refine lw_bipush (pc := 22) (v := 24) (by decide) (fm_dec dtX3_init 11 rfl) ?_
  refine lw_newI (pc := 24) (N := 24) (by decide) (by decide) (by decide) (by decide) (by decide) (fm_dec dtX3_init 12 rfl) (fun a3 => ?_)
  refine lw_assoc ?_
  show lwEv l G 0 4 2232 qX3_init 26 [some (.ref q), some (.ref u)] [.ref a3, .ref q] (w0 ++ [(q, .inr (3, [.null, .ref a1, .ref a2, .null, .null, .int 0, .long 0])), (a1, .inl (G.2.2.1 1, 2197, .inr (.inl (fun _ => 0)))), (a2, .inl (G.2.2.1 1, 8, .inr (.inl (fun _ => 0)))), (a3, .inl (G.2.2.1 0, 24, .inl (fun _ => 0)))]) 3 2229 Q
  refine lw_put (pc := 26) (i := 0) (j := 3) (ci := 3) (w0 := w0) rfl fl_X3_18 (fun _ => ⟨rfl, fun r hr => by cases hr; rfl⟩) rfl rfl (fm_lt rfl) (fm_dec dtX3_init 13 rfl) ?_
  show lwEv l G 0 4 2232 qX3_init 29 [some (.ref q), some (.ref u)] [] (w0 ++ [(q, .inr (3, [.null, .ref a1, .ref a2, .ref a3, .null, .int 0, .long 0])), (a1, .inl (G.2.2.1 1, 2197, .inr (.inl (fun _ => 0)))), (a2, .inl (G.2.2.1 1, 8, .inr (.inl (fun _ => 0)))), (a3, .inl (G.2.2.1 0, 24, .inl (fun _ => 0)))]) 3 2229 Q
  refine lw_aloadn (pc := 29) (n := 0) 0 rfl rfl (fm_dec dtX3_init 14 rfl) ?_
  refine lw_iconst (pc := 30) (v := 3) (by decide) (fm_dec dtX3_init 15 rfl) ?_
  refine lw_newI (pc := 31) (N := 3) (by decide) (by decide) (by decide) (by decide) (by decide) (fm_dec dtX3_init 16 rfl) (fun a4 => ?_)
  refine lw_assoc ?_
  show lwEv l G 0 4 2232 qX3_init 33 [some (.ref q), some (.ref u)] [.ref a4, .ref q] (w0 ++ [(q, .inr (3, [.null, .ref a1, .ref a2, .ref a3, .null, .int 0, .long 0])), (a1, .inl (G.2.2.1 1, 2197, .inr (.inl (fun _ => 0)))), (a2, .inl (G.2.2.1 1, 8, .inr (.inl (fun _ => 0)))), (a3, .inl (G.2.2.1 0, 24, .inl (fun _ => 0))), (a4, .inl (G.2.2.1 0, 3, .inl (fun _ => 0)))]) 4 2232 Q
  refine lw_put (pc := 33) (i := 0) (j := 4) (ci := 3) (w0 := w0) rfl fl_X3_22 (fun _ => ⟨rfl, fun r hr => by cases hr; rfl⟩) rfl rfl (fm_lt rfl) (fm_dec dtX3_init 17 rfl) ?_
  show lwEv l G 0 4 2232 qX3_init 36 [some (.ref q), some (.ref u)] [] (w0 ++ [(q, .inr (3, [.null, .ref a1, .ref a2, .ref a3, .ref a4, .int 0, .long 0])), (a1, .inl (G.2.2.1 1, 2197, .inr (.inl (fun _ => 0)))), (a2, .inl (G.2.2.1 1, 8, .inr (.inl (fun _ => 0)))), (a3, .inl (G.2.2.1 0, 24, .inl (fun _ => 0))), (a4, .inl (G.2.2.1 0, 3, .inl (fun _ => 0)))]) 4 2232 Q
  refine lw_aloadn (pc := 36) (n := 0) 0 rfl rfl (fm_dec dtX3_init 18 rfl) ?_
  refine lw_aloadn (pc := 37) (n := 1) 1 rfl rfl (fm_dec dtX3_init 19 rfl) ?_
  refine lw_put (pc := 38) (i := 0) (j := 0) (ci := 3) (w0 := w0) rfl fl_X3_25 (fun _ => ⟨rfl, fun r hr => by cases hr; rfl⟩) rfl rfl (fm_lt rfl) (fm_dec dtX3_init 20 rfl) ?_
  show lwEv l G 0 4 2232 qX3_init 41 [some (.ref q), some (.ref u)] [] (w0 ++ [(q, .inr (3, [.ref u, .ref a1, .ref a2, .ref a3, .ref a4, .int 0, .long 0])), (a1, .inl (G.2.2.1 1, 2197, .inr (.inl (fun _ => 0)))), (a2, .inl (G.2.2.1 1, 8, .inr (.inl (fun _ => 0)))), (a3, .inl (G.2.2.1 0, 24, .inl (fun _ => 0))), (a4, .inl (G.2.2.1 0, 3, .inl (fun _ => 0)))]) 4 2232 Q
  exact lw_return (pc := 41) rfl (by decide) (by decide) (fm_dec dtX3_init 21 rfl) (hq a1 a2 a3 a4)

def bState (G : fmG) (q a1 : Nat) : va_W := [(q, .inr (6, [.ref a1, .int 0, .int 0, .int 0, .int 0, .int 0, .long 0])), (a1, .inl (G.2.2.1 0, 8, .inl (fun _ => 0)))]
set_option maxRecDepth 20000 in
set_option maxHeartbeats 1000000 in
theorem k_X6_init {l : Launch} {G : fmG} {w0 : va_W} {q : Nat} {Q : va_W → Prop} (hq : ∀ a1 : Nat, Q (w0 ++ bState G q a1)) : lwGood l G 0 1 8 qX6_init [.ref q] (w0 ++ [(q, .inr (6, [.null, .int 0, .int 0, .int 0, .int 0, .int 0, .long 0]))]) Q := by
  refine lwGood_of (by decide +kernel) (Nat.le_of_ble_eq_true rfl) ?_
  show lwEv l G 0 1 8 qX6_init 0 [some (.ref q)] [] (w0 ++ [(q, .inr (6, [.null, .int 0, .int 0, .int 0, .int 0, .int 0, .long 0]))]) 0 0 Q
  refine lw_aloadn (pc := 0) (n := 0) 0 rfl rfl (fm_dec dtX6_init 0 rfl) ?_
  refine lw_obj (pc := 1) (fm_in 276 (by decide +kernel) rfl) (Nat.le_of_ble_eq_true rfl) (fm_dec dtX6_init 1 rfl) ?_
  refine lw_aloadn (pc := 4) (n := 0) 0 rfl rfl (fm_dec dtX6_init 2 rfl) ?_
  refine lw_bipush (pc := 5) (v := 8) (by decide) (fm_dec dtX6_init 3 rfl) ?_
  refine lw_newI (pc := 7) (N := 8) (by decide) (by decide) (by decide) (by decide) (by decide) (fm_dec dtX6_init 4 rfl) (fun a1 => ?_)
  refine lw_assoc ?_
  show lwEv l G 0 1 8 qX6_init 9 [some (.ref q)] [.ref a1, .ref q] (w0 ++ [(q, .inr (6, [.null, .int 0, .int 0, .int 0, .int 0, .int 0, .long 0])), (a1, .inl (G.2.2.1 0, 8, .inl (fun _ => 0)))]) 1 8 Q
  refine lw_put (pc := 9) (i := 0) (j := 0) (ci := 6) (w0 := w0) rfl fl_X6_9 (fun _ => ⟨rfl, fun r hr => by cases hr; rfl⟩) rfl rfl (fm_lt rfl) (fm_dec dtX6_init 5 rfl) ?_
  show lwEv l G 0 1 8 qX6_init 12 [some (.ref q)] [] (w0 ++ [(q, .inr (6, [.ref a1, .int 0, .int 0, .int 0, .int 0, .int 0, .long 0])), (a1, .inl (G.2.2.1 0, 8, .inl (fun _ => 0)))]) 1 8 Q
  exact lw_return (pc := 12) rfl (by decide) (by decide) (fm_dec dtX6_init 6 rfl) (hq a1)

def bSeeds (G : fmG) (q u a1 a2 a3 : Nat) : va_W := [(q, .inr (4, [.ref a1, .int 0, .ref u, .ref a3, .int 0])), (a3, .inl (G.2.2.1 1, 8, .inr (.inl (fun _ => 0)))), (a1, .inr (6, [.ref a2, .int 0, .int 0, .int 0, .int 0, .int 0, .long 0])), (a2, .inl (G.2.2.1 0, 8, .inl (fun _ => 0)))]
set_option maxRecDepth 20000 in
set_option maxHeartbeats 1000000 in
theorem k_X4_init {l : Launch} {G : fmG} {w0 : va_W} {q u : Nat} {Q : va_W → Prop} (hq : ∀ a1 a2 a3 : Nat, Q (w0 ++ bSeeds G q u a1 a2 a3)) : lwGood l G 1 3 23 qX4_init [.ref q, .ref u] (w0 ++ [(q, .inr (4, [.null, .int 0, .null, .null, .int 0]))]) Q := by
  refine lwGood_of (by decide +kernel) (Nat.le_of_ble_eq_true rfl) ?_
  show lwEv l G 1 3 23 qX4_init 0 [some (.ref q), some (.ref u)] [] (w0 ++ [(q, .inr (4, [.null, .int 0, .null, .null, .int 0]))]) 0 0 Q
  refine lw_aloadn (pc := 0) (n := 0) 0 rfl rfl (fm_dec dtX4_init 0 rfl) ?_
  refine lw_obj (pc := 1) (fm_in 270 (by decide +kernel) rfl) (Nat.le_of_ble_eq_true rfl) (fm_dec dtX4_init 1 rfl) ?_
  refine lw_aloadn (pc := 4) (n := 0) 0 rfl rfl (fm_dec dtX4_init 2 rfl) ?_
  refine lw_new (pc := 5) (ci := 6) (N := 7) (fs := [.null, .int 0, .int 0, .int 0, .int 0, .int 0, .long 0]) fk_6 rfl (fm_in 271 (by decide +kernel) rfl) (fm_in 272 (by decide +kernel) rfl) ni_X6 df_6 (by decide) (by decide) (fm_dec dtX4_init 3 rfl) (fun a1 => ?_)
  refine lw_assoc ?_
  show lwEv l G 1 3 23 qX4_init 8 [some (.ref q), some (.ref u)] [.ref a1, .ref q] (w0 ++ [(q, .inr (4, [.null, .int 0, .null, .null, .int 0])), (a1, .inr (6, [.null, .int 0, .int 0, .int 0, .int 0, .int 0, .long 0]))]) 1 7 Q
  refine lw_dup (pc := 8) rfl (fm_dec dtX4_init 4 rfl) ?_
  refine lw_init (y' := qX6_init) (d' := 0) (mc' := 1) (ms' := 8) (pc := 9) (As := []) (st := [.ref a1, .ref q]) ⟨fm_in 273 (by decide +kernel) rfl, ni_X6, nc_X6_init, nd_X6_init, by decide⟩ nm_X6_init rfl rfl rfl rfl (Nat.le_of_ble_eq_true rfl) (by decide) (by decide) (by decide) (fm_dec dtX4_init 5 rfl) ?_
  refine lwGood_assoc (w1 := w0) (w2 := [(q, .inr (4, [.null, .int 0, .null, .null, .int 0]))]) (w3 := [(a1, .inr (6, [.null, .int 0, .int 0, .int 0, .int 0, .int 0, .long 0]))]) ?_
  refine k_X6_init (fun a2 => ?_)
  refine lw_assoc ?_
  show lwEv l G 1 3 23 qX4_init 12 [some (.ref q), some (.ref u)] [.ref a1, .ref q] (w0 ++ ([(q, .inr (4, [.null, .int 0, .null, .null, .int 0]))] ++ bState G a1 a2)) 2 15 Q
  refine lw_put (pc := 12) (i := 0) (j := 0) (ci := 4) (w0 := w0) rfl fl_X4_12 (fun _ => ⟨rfl, fun r hr => by cases hr; rfl⟩) rfl rfl (fm_lt rfl) (fm_dec dtX4_init 6 rfl) ?_
  show lwEv l G 1 3 23 qX4_init 15 [some (.ref q), some (.ref u)] [] (w0 ++ ([(q, .inr (4, [.ref a1, .int 0, .null, .null, .int 0]))] ++ bState G a1 a2)) 2 15 Q
  refine lw_aloadn (pc := 15) (n := 0) 0 rfl rfl (fm_dec dtX4_init 7 rfl) ?_
  refine lw_bipush (pc := 16) (v := 8) (by decide) (fm_dec dtX4_init 8 rfl) ?_
  refine lw_newJ (pc := 18) (N := 8) (by decide) (by decide) (by decide) (by decide) (by decide) (fm_dec dtX4_init 9 rfl) (fun a3 => ?_)
  refine lw_assoc ?_
  show lwEv l G 1 3 23 qX4_init 20 [some (.ref q), some (.ref u)] [.ref a3, .ref q] (w0 ++ (([(q, .inr (4, [.ref a1, .int 0, .null, .null, .int 0]))] ++ bState G a1 a2) ++ [(a3, .inl (G.2.2.1 1, 8, .inr (.inl (fun _ => 0))))])) 3 23 Q
  refine lw_put (pc := 20) (i := 0) (j := 3) (ci := 4) (w0 := w0) rfl fl_X4_18 (fun _ => ⟨rfl, fun r hr => by cases hr; rfl⟩) rfl rfl (fm_lt rfl) (fm_dec dtX4_init 10 rfl) ?_
  show lwEv l G 1 3 23 qX4_init 23 [some (.ref q), some (.ref u)] [] (w0 ++ (([(q, .inr (4, [.ref a1, .int 0, .null, .ref a3, .int 0]))] ++ bState G a1 a2) ++ [(a3, .inl (G.2.2.1 1, 8, .inr (.inl (fun _ => 0))))])) 3 23 Q
  refine lw_aloadn (pc := 23) (n := 0) 0 rfl rfl (fm_dec dtX4_init 11 rfl) ?_
  refine lw_aloadn (pc := 24) (n := 1) 1 rfl rfl (fm_dec dtX4_init 12 rfl) ?_
  refine lw_put (pc := 25) (i := 0) (j := 2) (ci := 4) (w0 := w0) rfl fl_X4_22 (fun _ => ⟨rfl, fun r hr => by cases hr; rfl⟩) rfl rfl (fm_lt rfl) (fm_dec dtX4_init 13 rfl) ?_
  show lwEv l G 1 3 23 qX4_init 28 [some (.ref q), some (.ref u)] [] (w0 ++ (([(q, .inr (4, [.ref a1, .int 0, .ref u, .ref a3, .int 0]))] ++ bState G a1 a2) ++ [(a3, .inl (G.2.2.1 1, 8, .inr (.inl (fun _ => 0))))])) 3 23 Q
  refine lw_perm (ws' := w0 ++ bSeeds G q u a1 a2 a3) (List.Perm.append_left w0 (fm_sums _ _ (fun f => ?_))) ?_
  · simp only [bSeeds, bState, List.map_append, List.map_cons, List.map_nil, List.sum_append, List.sum_cons, List.sum_nil]; omega
  exact lw_return (pc := 28) rfl (by decide) (by decide) (fm_dec dtX4_init 14 rfl) (hq a1 a2 a3)

def T8 : fmT := (10, fun k => ([14, 0, 0, 0, 0, 0, 0, 0, 0, 0] : List Nat).getD k 0, fun k => ([15, 8, 8, 8, 8, 8, 8, 24, 24, 24] : List Nat).getD k 0, fun _ j => j + 1)
def T1 : fmT := (4, fun k => ([7, 0, 0, 0] : List Nat).getD k 0, fun k => ([5, 150, 150, 24] : List Nat).getD k 0, fun _ j => j + 1)
def m00 : fmM := (fun _ _ => 0, fun _ _ => 0)
def gl (as : List Nat) : Nat → Nat := fun k => as.getD k 0
set_option maxRecDepth 20000 in
theorem y_clearT {l : Launch} {G : fmG} {M : fmM} {Q : fmR → fmM → Prop} (hst : l.stackTraces = false)  (hq : Q (.inl none) (fmI (fmI (fmI (fmI (fmI (fmI M 0 9 0) 0 10 0) 0 11 8) 0 12 5) 0 13 3) 0 14 2)) : fmGood T8 l G 0 qX8_clear [.ref (G.1 0)] M Q := by
  refine fmGood_of hst (by decide +kernel) (Nat.le_of_ble_eq_true rfl) ?_
  show fmEv T8 l G 0 qX8_clear 0 [some (.ref (G.1 0))] [] M Q
  refine fm_aloadn (pc := 0) (n := 0) 0 rfl rfl (fm_dec dtX8_clear 0 rfl) ?_
  refine fm_iconst (pc := 1) (v := 0) (by decide) (fm_dec dtX8_clear 1 rfl) ?_
  refine fm_putI (k := 0) (j := 9) (ci := 8) (pc := 2) fl_X8_42 (by decide) rfl (by decide) rfl rfl (fm_dec dtX8_clear 2 rfl) ?_
  refine fm_aloadn (pc := 5) (n := 0) 0 rfl rfl (fm_dec dtX8_clear 3 rfl) ?_
  refine fm_iconst (pc := 6) (v := 0) (by decide) (fm_dec dtX8_clear 4 rfl) ?_
  refine fm_putI (k := 0) (j := 10) (ci := 8) (pc := 7) fl_X8_46 (by decide) rfl (by decide) rfl rfl (fm_dec dtX8_clear 5 rfl) ?_
  refine fm_aloadn (pc := 10) (n := 0) 0 rfl rfl (fm_dec dtX8_clear 6 rfl) ?_
  refine fm_bipush (pc := 11) (v := 8) (by decide) (fm_dec dtX8_clear 7 rfl) ?_
  refine fm_putI (k := 0) (j := 11) (ci := 8) (pc := 13) fl_X8_49 (by decide) rfl (by decide) rfl rfl (fm_dec dtX8_clear 8 rfl) ?_
  refine fm_aloadn (pc := 16) (n := 0) 0 rfl rfl (fm_dec dtX8_clear 9 rfl) ?_
  refine fm_iconst (pc := 17) (v := 5) (by decide) (fm_dec dtX8_clear 10 rfl) ?_
  refine fm_putI (k := 0) (j := 12) (ci := 8) (pc := 18) fl_X8_52 (by decide) rfl (by decide) rfl rfl (fm_dec dtX8_clear 11 rfl) ?_
  refine fm_aloadn (pc := 21) (n := 0) 0 rfl rfl (fm_dec dtX8_clear 12 rfl) ?_
  refine fm_iconst (pc := 22) (v := 3) (by decide) (fm_dec dtX8_clear 13 rfl) ?_
  refine fm_putI (k := 0) (j := 13) (ci := 8) (pc := 23) fl_X8_55 (by decide) rfl (by decide) rfl rfl (fm_dec dtX8_clear 14 rfl) ?_
  refine fm_aloadn (pc := 26) (n := 0) 0 rfl rfl (fm_dec dtX8_clear 15 rfl) ?_
  refine fm_iconst (pc := 27) (v := 2) (by decide) (fm_dec dtX8_clear 16 rfl) ?_
  refine fm_putI (k := 0) (j := 14) (ci := 8) (pc := 28) fl_X8_58 (by decide) rfl (by decide) rfl rfl (fm_dec dtX8_clear 17 rfl) ?_
  exact fm_return (pc := 31) rfl (fm_dec dtX8_clear 18 rfl) hq

set_option maxRecDepth 20000 in
theorem y_clearL {l : Launch} {G : fmG} {M : fmM} {Q : fmR → fmM → Prop} (hst : l.stackTraces = false)  (hq : Q (.inl none) (fmI (fmI (fmI (fmI M 1 0 (-1)) 1 1 (-1)) 1 2 (-8)) 0 3 3)) : fmGood T1 l G 0 qX1_clear [.ref (G.1 0)] M Q := by
  refine fmGood_of hst (by decide +kernel) (Nat.le_of_ble_eq_true rfl) ?_
  show fmEv T1 l G 0 qX1_clear 0 [some (.ref (G.1 0))] [] M Q
  refine fm_aloadn (pc := 0) (n := 0) 0 rfl rfl (fm_dec dtX1_clear 0 rfl) ?_
  refine fm_getR (k := 0) (j := 0) (ci := 1) (pc := 1) 1 rfl fl_X1_9 (by decide) rfl (by decide) (by decide) (fm_dec dtX1_clear 1 rfl) ?_
  refine fm_iconst (pc := 4) (v := 0) (by decide) (fm_dec dtX1_clear 2 rfl) ?_
  refine fm_iconst (pc := 5) (v := (-1)) (by decide) (fm_dec dtX1_clear 3 rfl) ?_
  refine fm_iast (k := 1) (n := 150) (pc := 6) (by decide) rfl rfl (fm_inl (by decide)) (fm_dec dtX1_clear 4 rfl) ?_
  refine fm_aloadn (pc := 7) (n := 0) 0 rfl rfl (fm_dec dtX1_clear 5 rfl) ?_
  refine fm_getR (k := 0) (j := 0) (ci := 1) (pc := 8) 1 rfl fl_X1_9 (by decide) rfl (by decide) (by decide) (fm_dec dtX1_clear 6 rfl) ?_
  refine fm_iconst (pc := 11) (v := 1) (by decide) (fm_dec dtX1_clear 7 rfl) ?_
  refine fm_iconst (pc := 12) (v := (-1)) (by decide) (fm_dec dtX1_clear 8 rfl) ?_
  refine fm_iast (k := 1) (n := 150) (pc := 13) (by decide) rfl rfl (fm_inl (by decide)) (fm_dec dtX1_clear 9 rfl) ?_
  refine fm_aloadn (pc := 14) (n := 0) 0 rfl rfl (fm_dec dtX1_clear 10 rfl) ?_
  refine fm_getR (k := 0) (j := 0) (ci := 1) (pc := 15) 1 rfl fl_X1_9 (by decide) rfl (by decide) (by decide) (fm_dec dtX1_clear 11 rfl) ?_
  refine fm_iconst (pc := 18) (v := 2) (by decide) (fm_dec dtX1_clear 12 rfl) ?_
  refine fm_bipush (pc := 19) (v := (-8)) (by decide) (fm_dec dtX1_clear 13 rfl) ?_
  refine fm_iast (k := 1) (n := 150) (pc := 21) (by decide) rfl rfl (fm_inl (by decide)) (fm_dec dtX1_clear 14 rfl) ?_
  refine fm_aloadn (pc := 22) (n := 0) 0 rfl rfl (fm_dec dtX1_clear 15 rfl) ?_
  refine fm_iconst (pc := 23) (v := 3) (by decide) (fm_dec dtX1_clear 16 rfl) ?_
  refine fm_putI (k := 0) (j := 3) (ci := 1) (pc := 24) fl_X1_24 (by decide) rfl (by decide) rfl rfl (fm_dec dtX1_clear 17 rfl) ?_
  exact fm_return (pc := 27) rfl (fm_dec dtX1_clear 18 rfl) hq

def bTold (G : fmG) (q a1 a2 a3 a4 a5 a6 a7 a8 a9 : Nat) : va_W := [(q, .inr (8, [.ref a1, .ref a2, .ref a3, .ref a4, .ref a5, .ref a6, .ref a7, .ref a8, .ref a9, .int 0, .int 0, .int 8, .int 5, .int 3, .int 2])), (a1, .inl (G.2.2.1 0, 8, .inl (fun _ => 0))), (a2, .inl (G.2.2.1 0, 8, .inl (fun _ => 0))), (a3, .inl (G.2.2.1 0, 8, .inl (fun _ => 0))), (a4, .inl (G.2.2.1 0, 8, .inl (fun _ => 0))), (a5, .inl (G.2.2.1 0, 8, .inl (fun _ => 0))), (a6, .inl (G.2.2.1 0, 8, .inl (fun _ => 0))), (a7, .inl (G.2.2.1 0, 24, .inl (fun _ => 0))), (a8, .inl (G.2.2.1 0, 24, .inl (fun _ => 0))), (a9, .inl (G.2.2.1 0, 24, .inl (fun _ => 0)))]
set_option maxRecDepth 20000 in
set_option maxHeartbeats 1000000 in
theorem k_X8_init {l : Launch} {G : fmG} {w0 : va_W} {q : Nat} {Q : va_W → Prop} (hst : l.stackTraces = false) (hq : ∀ a1 a2 a3 a4 a5 a6 a7 a8 a9 : Nat, Q (w0 ++ bTold G q a1 a2 a3 a4 a5 a6 a7 a8 a9)) : lwGood l G 1 9 120 qX8_init [.ref q] (w0 ++ [(q, .inr (8, [.null, .null, .null, .null, .null, .null, .null, .null, .null, .int 0, .int 0, .int 0, .int 0, .int 0, .int 0]))]) Q := by
  refine lwGood_of (by decide +kernel) (Nat.le_of_ble_eq_true rfl) ?_
  show lwEv l G 1 9 120 qX8_init 0 [some (.ref q)] [] (w0 ++ [(q, .inr (8, [.null, .null, .null, .null, .null, .null, .null, .null, .null, .int 0, .int 0, .int 0, .int 0, .int 0, .int 0]))]) 0 0 Q
  refine lw_aloadn (pc := 0) (n := 0) 0 rfl rfl (fm_dec dtX8_init 0 rfl) ?_
  refine lw_obj (pc := 1) (fm_in 70 (by decide +kernel) rfl) (Nat.le_of_ble_eq_true rfl) (fm_dec dtX8_init 1 rfl) ?_
  refine lw_aloadn (pc := 4) (n := 0) 0 rfl rfl (fm_dec dtX8_init 2 rfl) ?_
  refine lw_bipush (pc := 5) (v := 8) (by decide) (fm_dec dtX8_init 3 rfl) ?_
  refine lw_newI (pc := 7) (N := 8) (by decide) (by decide) (by decide) (by decide) (by decide) (fm_dec dtX8_init 4 rfl) (fun a1 => ?_)
  refine lw_assoc ?_
  show lwEv l G 1 9 120 qX8_init 9 [some (.ref q)] [.ref a1, .ref q] (w0 ++ [(q, .inr (8, [.null, .null, .null, .null, .null, .null, .null, .null, .null, .int 0, .int 0, .int 0, .int 0, .int 0, .int 0])), (a1, .inl (G.2.2.1 0, 8, .inl (fun _ => 0)))]) 1 8 Q
  refine lw_put (pc := 9) (i := 0) (j := 0) (ci := 8) (w0 := w0) rfl fl_X8_9 (fun _ => ⟨rfl, fun r hr => by cases hr; rfl⟩) rfl rfl (fm_lt rfl) (fm_dec dtX8_init 5 rfl) ?_
  show lwEv l G 1 9 120 qX8_init 12 [some (.ref q)] [] (w0 ++ [(q, .inr (8, [.ref a1, .null, .null, .null, .null, .null, .null, .null, .null, .int 0, .int 0, .int 0, .int 0, .int 0, .int 0])), (a1, .inl (G.2.2.1 0, 8, .inl (fun _ => 0)))]) 1 8 Q
  refine lw_aloadn (pc := 12) (n := 0) 0 rfl rfl (fm_dec dtX8_init 6 rfl) ?_
  refine lw_bipush (pc := 13) (v := 8) (by decide) (fm_dec dtX8_init 7 rfl) ?_
  refine lw_newI (pc := 15) (N := 8) (by decide) (by decide) (by decide) (by decide) (by decide) (fm_dec dtX8_init 8 rfl) (fun a2 => ?_)
  refine lw_assoc ?_
  show lwEv l G 1 9 120 qX8_init 17 [some (.ref q)] [.ref a2, .ref q] (w0 ++ [(q, .inr (8, [.ref a1, .null, .null, .null, .null, .null, .null, .null, .null, .int 0, .int 0, .int 0, .int 0, .int 0, .int 0])), (a1, .inl (G.2.2.1 0, 8, .inl (fun _ => 0))), (a2, .inl (G.2.2.1 0, 8, .inl (fun _ => 0)))]) 2 16 Q
  refine lw_put (pc := 17) (i := 0) (j := 1) (ci := 8) (w0 := w0) rfl fl_X8_15 (fun _ => ⟨rfl, fun r hr => by cases hr; rfl⟩) rfl rfl (fm_lt rfl) (fm_dec dtX8_init 9 rfl) ?_
  show lwEv l G 1 9 120 qX8_init 20 [some (.ref q)] [] (w0 ++ [(q, .inr (8, [.ref a1, .ref a2, .null, .null, .null, .null, .null, .null, .null, .int 0, .int 0, .int 0, .int 0, .int 0, .int 0])), (a1, .inl (G.2.2.1 0, 8, .inl (fun _ => 0))), (a2, .inl (G.2.2.1 0, 8, .inl (fun _ => 0)))]) 2 16 Q
  refine lw_aloadn (pc := 20) (n := 0) 0 rfl rfl (fm_dec dtX8_init 10 rfl) ?_
  refine lw_bipush (pc := 21) (v := 8) (by decide) (fm_dec dtX8_init 11 rfl) ?_
  refine lw_newI (pc := 23) (N := 8) (by decide) (by decide) (by decide) (by decide) (by decide) (fm_dec dtX8_init 12 rfl) (fun a3 => ?_)
  refine lw_assoc ?_
  show lwEv l G 1 9 120 qX8_init 25 [some (.ref q)] [.ref a3, .ref q] (w0 ++ [(q, .inr (8, [.ref a1, .ref a2, .null, .null, .null, .null, .null, .null, .null, .int 0, .int 0, .int 0, .int 0, .int 0, .int 0])), (a1, .inl (G.2.2.1 0, 8, .inl (fun _ => 0))), (a2, .inl (G.2.2.1 0, 8, .inl (fun _ => 0))), (a3, .inl (G.2.2.1 0, 8, .inl (fun _ => 0)))]) 3 24 Q
  refine lw_put (pc := 25) (i := 0) (j := 2) (ci := 8) (w0 := w0) rfl fl_X8_18 (fun _ => ⟨rfl, fun r hr => by cases hr; rfl⟩) rfl rfl (fm_lt rfl) (fm_dec dtX8_init 13 rfl) ?_
  show lwEv l G 1 9 120 qX8_init 28 [some (.ref q)] [] (w0 ++ [(q, .inr (8, [.ref a1, .ref a2, .ref a3, .null, .null, .null, .null, .null, .null, .int 0, .int 0, .int 0, .int 0, .int 0, .int 0])), (a1, .inl (G.2.2.1 0, 8, .inl (fun _ => 0))), (a2, .inl (G.2.2.1 0, 8, .inl (fun _ => 0))), (a3, .inl (G.2.2.1 0, 8, .inl (fun _ => 0)))]) 3 24 Q
  refine lw_aloadn (pc := 28) (n := 0) 0 rfl rfl (fm_dec dtX8_init 14 rfl) ?_
  refine lw_bipush (pc := 29) (v := 8) (by decide) (fm_dec dtX8_init 15 rfl) ?_
  refine lw_newI (pc := 31) (N := 8) (by decide) (by decide) (by decide) (by decide) (by decide) (fm_dec dtX8_init 16 rfl) (fun a4 => ?_)
  refine lw_assoc ?_
  show lwEv l G 1 9 120 qX8_init 33 [some (.ref q)] [.ref a4, .ref q] (w0 ++ [(q, .inr (8, [.ref a1, .ref a2, .ref a3, .null, .null, .null, .null, .null, .null, .int 0, .int 0, .int 0, .int 0, .int 0, .int 0])), (a1, .inl (G.2.2.1 0, 8, .inl (fun _ => 0))), (a2, .inl (G.2.2.1 0, 8, .inl (fun _ => 0))), (a3, .inl (G.2.2.1 0, 8, .inl (fun _ => 0))), (a4, .inl (G.2.2.1 0, 8, .inl (fun _ => 0)))]) 4 32 Q
  refine lw_put (pc := 33) (i := 0) (j := 3) (ci := 8) (w0 := w0) rfl fl_X8_21 (fun _ => ⟨rfl, fun r hr => by cases hr; rfl⟩) rfl rfl (fm_lt rfl) (fm_dec dtX8_init 17 rfl) ?_
  show lwEv l G 1 9 120 qX8_init 36 [some (.ref q)] [] (w0 ++ [(q, .inr (8, [.ref a1, .ref a2, .ref a3, .ref a4, .null, .null, .null, .null, .null, .int 0, .int 0, .int 0, .int 0, .int 0, .int 0])), (a1, .inl (G.2.2.1 0, 8, .inl (fun _ => 0))), (a2, .inl (G.2.2.1 0, 8, .inl (fun _ => 0))), (a3, .inl (G.2.2.1 0, 8, .inl (fun _ => 0))), (a4, .inl (G.2.2.1 0, 8, .inl (fun _ => 0)))]) 4 32 Q
  refine lw_aloadn (pc := 36) (n := 0) 0 rfl rfl (fm_dec dtX8_init 18 rfl) ?_
  refine lw_bipush (pc := 37) (v := 8) (by decide) (fm_dec dtX8_init 19 rfl) ?_
  refine lw_newI (pc := 39) (N := 8) (by decide) (by decide) (by decide) (by decide) (by decide) (fm_dec dtX8_init 20 rfl) (fun a5 => ?_)
  refine lw_assoc ?_
  show lwEv l G 1 9 120 qX8_init 41 [some (.ref q)] [.ref a5, .ref q] (w0 ++ [(q, .inr (8, [.ref a1, .ref a2, .ref a3, .ref a4, .null, .null, .null, .null, .null, .int 0, .int 0, .int 0, .int 0, .int 0, .int 0])), (a1, .inl (G.2.2.1 0, 8, .inl (fun _ => 0))), (a2, .inl (G.2.2.1 0, 8, .inl (fun _ => 0))), (a3, .inl (G.2.2.1 0, 8, .inl (fun _ => 0))), (a4, .inl (G.2.2.1 0, 8, .inl (fun _ => 0))), (a5, .inl (G.2.2.1 0, 8, .inl (fun _ => 0)))]) 5 40 Q
  refine lw_put (pc := 41) (i := 0) (j := 4) (ci := 8) (w0 := w0) rfl fl_X8_24 (fun _ => ⟨rfl, fun r hr => by cases hr; rfl⟩) rfl rfl (fm_lt rfl) (fm_dec dtX8_init 21 rfl) ?_
  show lwEv l G 1 9 120 qX8_init 44 [some (.ref q)] [] (w0 ++ [(q, .inr (8, [.ref a1, .ref a2, .ref a3, .ref a4, .ref a5, .null, .null, .null, .null, .int 0, .int 0, .int 0, .int 0, .int 0, .int 0])), (a1, .inl (G.2.2.1 0, 8, .inl (fun _ => 0))), (a2, .inl (G.2.2.1 0, 8, .inl (fun _ => 0))), (a3, .inl (G.2.2.1 0, 8, .inl (fun _ => 0))), (a4, .inl (G.2.2.1 0, 8, .inl (fun _ => 0))), (a5, .inl (G.2.2.1 0, 8, .inl (fun _ => 0)))]) 5 40 Q
  refine lw_aloadn (pc := 44) (n := 0) 0 rfl rfl (fm_dec dtX8_init 22 rfl) ?_
  refine lw_bipush (pc := 45) (v := 8) (by decide) (fm_dec dtX8_init 23 rfl) ?_
  refine lw_newI (pc := 47) (N := 8) (by decide) (by decide) (by decide) (by decide) (by decide) (fm_dec dtX8_init 24 rfl) (fun a6 => ?_)
  refine lw_assoc ?_
  show lwEv l G 1 9 120 qX8_init 49 [some (.ref q)] [.ref a6, .ref q] (w0 ++ [(q, .inr (8, [.ref a1, .ref a2, .ref a3, .ref a4, .ref a5, .null, .null, .null, .null, .int 0, .int 0, .int 0, .int 0, .int 0, .int 0])), (a1, .inl (G.2.2.1 0, 8, .inl (fun _ => 0))), (a2, .inl (G.2.2.1 0, 8, .inl (fun _ => 0))), (a3, .inl (G.2.2.1 0, 8, .inl (fun _ => 0))), (a4, .inl (G.2.2.1 0, 8, .inl (fun _ => 0))), (a5, .inl (G.2.2.1 0, 8, .inl (fun _ => 0))), (a6, .inl (G.2.2.1 0, 8, .inl (fun _ => 0)))]) 6 48 Q
  refine lw_put (pc := 49) (i := 0) (j := 5) (ci := 8) (w0 := w0) rfl fl_X8_27 (fun _ => ⟨rfl, fun r hr => by cases hr; rfl⟩) rfl rfl (fm_lt rfl) (fm_dec dtX8_init 25 rfl) ?_
  show lwEv l G 1 9 120 qX8_init 52 [some (.ref q)] [] (w0 ++ [(q, .inr (8, [.ref a1, .ref a2, .ref a3, .ref a4, .ref a5, .ref a6, .null, .null, .null, .int 0, .int 0, .int 0, .int 0, .int 0, .int 0])), (a1, .inl (G.2.2.1 0, 8, .inl (fun _ => 0))), (a2, .inl (G.2.2.1 0, 8, .inl (fun _ => 0))), (a3, .inl (G.2.2.1 0, 8, .inl (fun _ => 0))), (a4, .inl (G.2.2.1 0, 8, .inl (fun _ => 0))), (a5, .inl (G.2.2.1 0, 8, .inl (fun _ => 0))), (a6, .inl (G.2.2.1 0, 8, .inl (fun _ => 0)))]) 6 48 Q
  refine lw_aloadn (pc := 52) (n := 0) 0 rfl rfl (fm_dec dtX8_init 26 rfl) ?_
  refine lw_bipush (pc := 53) (v := 24) (by decide) (fm_dec dtX8_init 27 rfl) ?_
  refine lw_newI (pc := 55) (N := 24) (by decide) (by decide) (by decide) (by decide) (by decide) (fm_dec dtX8_init 28 rfl) (fun a7 => ?_)
  refine lw_assoc ?_
  show lwEv l G 1 9 120 qX8_init 57 [some (.ref q)] [.ref a7, .ref q] (w0 ++ [(q, .inr (8, [.ref a1, .ref a2, .ref a3, .ref a4, .ref a5, .ref a6, .null, .null, .null, .int 0, .int 0, .int 0, .int 0, .int 0, .int 0])), (a1, .inl (G.2.2.1 0, 8, .inl (fun _ => 0))), (a2, .inl (G.2.2.1 0, 8, .inl (fun _ => 0))), (a3, .inl (G.2.2.1 0, 8, .inl (fun _ => 0))), (a4, .inl (G.2.2.1 0, 8, .inl (fun _ => 0))), (a5, .inl (G.2.2.1 0, 8, .inl (fun _ => 0))), (a6, .inl (G.2.2.1 0, 8, .inl (fun _ => 0))), (a7, .inl (G.2.2.1 0, 24, .inl (fun _ => 0)))]) 7 72 Q
  refine lw_put (pc := 57) (i := 0) (j := 6) (ci := 8) (w0 := w0) rfl fl_X8_30 (fun _ => ⟨rfl, fun r hr => by cases hr; rfl⟩) rfl rfl (fm_lt rfl) (fm_dec dtX8_init 29 rfl) ?_
  show lwEv l G 1 9 120 qX8_init 60 [some (.ref q)] [] (w0 ++ [(q, .inr (8, [.ref a1, .ref a2, .ref a3, .ref a4, .ref a5, .ref a6, .ref a7, .null, .null, .int 0, .int 0, .int 0, .int 0, .int 0, .int 0])), (a1, .inl (G.2.2.1 0, 8, .inl (fun _ => 0))), (a2, .inl (G.2.2.1 0, 8, .inl (fun _ => 0))), (a3, .inl (G.2.2.1 0, 8, .inl (fun _ => 0))), (a4, .inl (G.2.2.1 0, 8, .inl (fun _ => 0))), (a5, .inl (G.2.2.1 0, 8, .inl (fun _ => 0))), (a6, .inl (G.2.2.1 0, 8, .inl (fun _ => 0))), (a7, .inl (G.2.2.1 0, 24, .inl (fun _ => 0)))]) 7 72 Q
  refine lw_aloadn (pc := 60) (n := 0) 0 rfl rfl (fm_dec dtX8_init 30 rfl) ?_
  refine lw_bipush (pc := 61) (v := 24) (by decide) (fm_dec dtX8_init 31 rfl) ?_
  refine lw_newI (pc := 63) (N := 24) (by decide) (by decide) (by decide) (by decide) (by decide) (fm_dec dtX8_init 32 rfl) (fun a8 => ?_)
  refine lw_assoc ?_
  show lwEv l G 1 9 120 qX8_init 65 [some (.ref q)] [.ref a8, .ref q] (w0 ++ [(q, .inr (8, [.ref a1, .ref a2, .ref a3, .ref a4, .ref a5, .ref a6, .ref a7, .null, .null, .int 0, .int 0, .int 0, .int 0, .int 0, .int 0])), (a1, .inl (G.2.2.1 0, 8, .inl (fun _ => 0))), (a2, .inl (G.2.2.1 0, 8, .inl (fun _ => 0))), (a3, .inl (G.2.2.1 0, 8, .inl (fun _ => 0))), (a4, .inl (G.2.2.1 0, 8, .inl (fun _ => 0))), (a5, .inl (G.2.2.1 0, 8, .inl (fun _ => 0))), (a6, .inl (G.2.2.1 0, 8, .inl (fun _ => 0))), (a7, .inl (G.2.2.1 0, 24, .inl (fun _ => 0))), (a8, .inl (G.2.2.1 0, 24, .inl (fun _ => 0)))]) 8 96 Q
  refine lw_put (pc := 65) (i := 0) (j := 7) (ci := 8) (w0 := w0) rfl fl_X8_33 (fun _ => ⟨rfl, fun r hr => by cases hr; rfl⟩) rfl rfl (fm_lt rfl) (fm_dec dtX8_init 33 rfl) ?_
  show lwEv l G 1 9 120 qX8_init 68 [some (.ref q)] [] (w0 ++ [(q, .inr (8, [.ref a1, .ref a2, .ref a3, .ref a4, .ref a5, .ref a6, .ref a7, .ref a8, .null, .int 0, .int 0, .int 0, .int 0, .int 0, .int 0])), (a1, .inl (G.2.2.1 0, 8, .inl (fun _ => 0))), (a2, .inl (G.2.2.1 0, 8, .inl (fun _ => 0))), (a3, .inl (G.2.2.1 0, 8, .inl (fun _ => 0))), (a4, .inl (G.2.2.1 0, 8, .inl (fun _ => 0))), (a5, .inl (G.2.2.1 0, 8, .inl (fun _ => 0))), (a6, .inl (G.2.2.1 0, 8, .inl (fun _ => 0))), (a7, .inl (G.2.2.1 0, 24, .inl (fun _ => 0))), (a8, .inl (G.2.2.1 0, 24, .inl (fun _ => 0)))]) 8 96 Q
  refine lw_aloadn (pc := 68) (n := 0) 0 rfl rfl (fm_dec dtX8_init 34 rfl) ?_
  refine lw_bipush (pc := 69) (v := 24) (by decide) (fm_dec dtX8_init 35 rfl) ?_
  refine lw_newI (pc := 71) (N := 24) (by decide) (by decide) (by decide) (by decide) (by decide) (fm_dec dtX8_init 36 rfl) (fun a9 => ?_)
  refine lw_assoc ?_
  show lwEv l G 1 9 120 qX8_init 73 [some (.ref q)] [.ref a9, .ref q] (w0 ++ [(q, .inr (8, [.ref a1, .ref a2, .ref a3, .ref a4, .ref a5, .ref a6, .ref a7, .ref a8, .null, .int 0, .int 0, .int 0, .int 0, .int 0, .int 0])), (a1, .inl (G.2.2.1 0, 8, .inl (fun _ => 0))), (a2, .inl (G.2.2.1 0, 8, .inl (fun _ => 0))), (a3, .inl (G.2.2.1 0, 8, .inl (fun _ => 0))), (a4, .inl (G.2.2.1 0, 8, .inl (fun _ => 0))), (a5, .inl (G.2.2.1 0, 8, .inl (fun _ => 0))), (a6, .inl (G.2.2.1 0, 8, .inl (fun _ => 0))), (a7, .inl (G.2.2.1 0, 24, .inl (fun _ => 0))), (a8, .inl (G.2.2.1 0, 24, .inl (fun _ => 0))), (a9, .inl (G.2.2.1 0, 24, .inl (fun _ => 0)))]) 9 120 Q
  refine lw_put (pc := 73) (i := 0) (j := 8) (ci := 8) (w0 := w0) rfl fl_X8_36 (fun _ => ⟨rfl, fun r hr => by cases hr; rfl⟩) rfl rfl (fm_lt rfl) (fm_dec dtX8_init 37 rfl) ?_
  show lwEv l G 1 9 120 qX8_init 76 [some (.ref q)] [] (w0 ++ [(q, .inr (8, [.ref a1, .ref a2, .ref a3, .ref a4, .ref a5, .ref a6, .ref a7, .ref a8, .ref a9, .int 0, .int 0, .int 0, .int 0, .int 0, .int 0])), (a1, .inl (G.2.2.1 0, 8, .inl (fun _ => 0))), (a2, .inl (G.2.2.1 0, 8, .inl (fun _ => 0))), (a3, .inl (G.2.2.1 0, 8, .inl (fun _ => 0))), (a4, .inl (G.2.2.1 0, 8, .inl (fun _ => 0))), (a5, .inl (G.2.2.1 0, 8, .inl (fun _ => 0))), (a6, .inl (G.2.2.1 0, 8, .inl (fun _ => 0))), (a7, .inl (G.2.2.1 0, 24, .inl (fun _ => 0))), (a8, .inl (G.2.2.1 0, 24, .inl (fun _ => 0))), (a9, .inl (G.2.2.1 0, 24, .inl (fun _ => 0)))]) 9 120 Q
  refine lw_aloadn (pc := 76) (n := 0) 0 rfl rfl (fm_dec dtX8_init 38 rfl) ?_
  refine lw_ws (ws' := w0 ++ fmL T8 (gl [q, a1, a2, a3, a4, a5, a6, a7, a8, a9], G.2) m00) rfl ?_
  refine lw_callF (T := T8) (g := gl [q, a1, a2, a3, a4, a5, a6, a7, a8, a9]) (M := m00) (w0 := w0) (k := 0) (ci := 8) (d' := 0) (pc := 77) (As := []) (st := []) cv_X8_39 (by decide) rfl rfl rfl (by decide) (by decide) (by decide) (by decide) (fm_dec dtX8_init 39 rfl) ?_
  refine y_clearT hst ⟨rfl, ?_⟩
  show lwEv l G 1 9 120 qX8_init 80 [some (.ref q)] [] (w0 ++ [(q, .inr (8, [.ref a1, .ref a2, .ref a3, .ref a4, .ref a5, .ref a6, .ref a7, .ref a8, .ref a9, .int 0, .int 0, .int 8, .int 5, .int 3, .int 2])), (a1, .inl (G.2.2.1 0, 8, .inl (fun _ => 0))), (a2, .inl (G.2.2.1 0, 8, .inl (fun _ => 0))), (a3, .inl (G.2.2.1 0, 8, .inl (fun _ => 0))), (a4, .inl (G.2.2.1 0, 8, .inl (fun _ => 0))), (a5, .inl (G.2.2.1 0, 8, .inl (fun _ => 0))), (a6, .inl (G.2.2.1 0, 8, .inl (fun _ => 0))), (a7, .inl (G.2.2.1 0, 24, .inl (fun _ => 0))), (a8, .inl (G.2.2.1 0, 24, .inl (fun _ => 0))), (a9, .inl (G.2.2.1 0, 24, .inl (fun _ => 0)))]) 9 120 Q
  exact lw_return (pc := 80) rfl (by decide) (by decide) (fm_dec dtX8_init 40 rfl) (hq a1 a2 a3 a4 a5 a6 a7 a8 a9)

def bLaw (G : fmG) (q a1 a2 a3 : Nat) : va_W := [(q, .inr (1, [.ref a1, .ref a2, .ref a3, .int 3, .int 0])), (a1, .inl (G.2.2.1 0, 150, .inl (upd (upd (upd (fun _ => 0) 0 (-1)) 1 (-1)) 2 (-8)))), (a2, .inl (G.2.2.1 0, 150, .inl (fun _ => 0))), (a3, .inl (G.2.2.1 0, 24, .inl (fun _ => 0)))]
set_option maxRecDepth 20000 in
set_option maxHeartbeats 1000000 in
theorem k_X1_init {l : Launch} {G : fmG} {w0 : va_W} {q : Nat} {Q : va_W → Prop} (hst : l.stackTraces = false) (hq : ∀ a1 a2 a3 : Nat, Q (w0 ++ bLaw G q a1 a2 a3)) : lwGood l G 1 3 324 qX1_init [.ref q] (w0 ++ [(q, .inr (1, [.null, .null, .null, .int 0, .int 0]))]) Q := by
  refine lwGood_of (by decide +kernel) (Nat.le_of_ble_eq_true rfl) ?_
  show lwEv l G 1 3 324 qX1_init 0 [some (.ref q)] [] (w0 ++ [(q, .inr (1, [.null, .null, .null, .int 0, .int 0]))]) 0 0 Q
  refine lw_aloadn (pc := 0) (n := 0) 0 rfl rfl (fm_dec dtX1_init 0 rfl) ?_
  refine lw_obj (pc := 1) (fm_in 149 (by decide +kernel) rfl) (Nat.le_of_ble_eq_true rfl) (fm_dec dtX1_init 1 rfl) ?_
  refine lw_aloadn (pc := 4) (n := 0) 0 rfl rfl (fm_dec dtX1_init 2 rfl) ?_
  refine lw_sipush (pc := 5) (v := 150) (by decide) (fm_dec dtX1_init 3 rfl) ?_
  refine lw_newI (pc := 8) (N := 150) (by decide) (by decide) (by decide) (by decide) (by decide) (fm_dec dtX1_init 4 rfl) (fun a1 => ?_)
  refine lw_assoc ?_
  show lwEv l G 1 3 324 qX1_init 10 [some (.ref q)] [.ref a1, .ref q] (w0 ++ [(q, .inr (1, [.null, .null, .null, .int 0, .int 0])), (a1, .inl (G.2.2.1 0, 150, .inl (fun _ => 0)))]) 1 150 Q
  refine lw_put (pc := 10) (i := 0) (j := 0) (ci := 1) (w0 := w0) rfl fl_X1_9 (fun _ => ⟨rfl, fun r hr => by cases hr; rfl⟩) rfl rfl (fm_lt rfl) (fm_dec dtX1_init 5 rfl) ?_
  show lwEv l G 1 3 324 qX1_init 13 [some (.ref q)] [] (w0 ++ [(q, .inr (1, [.ref a1, .null, .null, .int 0, .int 0])), (a1, .inl (G.2.2.1 0, 150, .inl (fun _ => 0)))]) 1 150 Q
  refine lw_aloadn (pc := 13) (n := 0) 0 rfl rfl (fm_dec dtX1_init 6 rfl) ?_
  refine lw_sipush (pc := 14) (v := 150) (by decide) (fm_dec dtX1_init 7 rfl) ?_
  refine lw_newI (pc := 17) (N := 150) (by decide) (by decide) (by decide) (by decide) (by decide) (fm_dec dtX1_init 8 rfl) (fun a2 => ?_)
  refine lw_assoc ?_
  show lwEv l G 1 3 324 qX1_init 19 [some (.ref q)] [.ref a2, .ref q] (w0 ++ [(q, .inr (1, [.ref a1, .null, .null, .int 0, .int 0])), (a1, .inl (G.2.2.1 0, 150, .inl (fun _ => 0))), (a2, .inl (G.2.2.1 0, 150, .inl (fun _ => 0)))]) 2 300 Q
  refine lw_put (pc := 19) (i := 0) (j := 1) (ci := 1) (w0 := w0) rfl fl_X1_15 (fun _ => ⟨rfl, fun r hr => by cases hr; rfl⟩) rfl rfl (fm_lt rfl) (fm_dec dtX1_init 9 rfl) ?_
  show lwEv l G 1 3 324 qX1_init 22 [some (.ref q)] [] (w0 ++ [(q, .inr (1, [.ref a1, .ref a2, .null, .int 0, .int 0])), (a1, .inl (G.2.2.1 0, 150, .inl (fun _ => 0))), (a2, .inl (G.2.2.1 0, 150, .inl (fun _ => 0)))]) 2 300 Q
  refine lw_aloadn (pc := 22) (n := 0) 0 rfl rfl (fm_dec dtX1_init 10 rfl) ?_
  refine lw_bipush (pc := 23) (v := 24) (by decide) (fm_dec dtX1_init 11 rfl) ?_
  refine lw_newI (pc := 25) (N := 24) (by decide) (by decide) (by decide) (by decide) (by decide) (fm_dec dtX1_init 12 rfl) (fun a3 => ?_)
  refine lw_assoc ?_
  show lwEv l G 1 3 324 qX1_init 27 [some (.ref q)] [.ref a3, .ref q] (w0 ++ [(q, .inr (1, [.ref a1, .ref a2, .null, .int 0, .int 0])), (a1, .inl (G.2.2.1 0, 150, .inl (fun _ => 0))), (a2, .inl (G.2.2.1 0, 150, .inl (fun _ => 0))), (a3, .inl (G.2.2.1 0, 24, .inl (fun _ => 0)))]) 3 324 Q
  refine lw_put (pc := 27) (i := 0) (j := 2) (ci := 1) (w0 := w0) rfl fl_X1_18 (fun _ => ⟨rfl, fun r hr => by cases hr; rfl⟩) rfl rfl (fm_lt rfl) (fm_dec dtX1_init 13 rfl) ?_
  show lwEv l G 1 3 324 qX1_init 30 [some (.ref q)] [] (w0 ++ [(q, .inr (1, [.ref a1, .ref a2, .ref a3, .int 0, .int 0])), (a1, .inl (G.2.2.1 0, 150, .inl (fun _ => 0))), (a2, .inl (G.2.2.1 0, 150, .inl (fun _ => 0))), (a3, .inl (G.2.2.1 0, 24, .inl (fun _ => 0)))]) 3 324 Q
  refine lw_aloadn (pc := 30) (n := 0) 0 rfl rfl (fm_dec dtX1_init 14 rfl) ?_
  refine lw_ws (ws' := w0 ++ fmL T1 (gl [q, a1, a2, a3], G.2) m00) rfl ?_
  refine lw_callF (T := T1) (g := gl [q, a1, a2, a3]) (M := m00) (w0 := w0) (k := 0) (ci := 1) (d' := 0) (pc := 31) (As := []) (st := []) cv_X1_21 (by decide) rfl rfl rfl (by decide) (by decide) (by decide) (by decide) (fm_dec dtX1_init 15 rfl) ?_
  refine y_clearL hst ⟨rfl, ?_⟩
  show lwEv l G 1 3 324 qX1_init 34 [some (.ref q)] [] (w0 ++ [(q, .inr (1, [.ref a1, .ref a2, .ref a3, .int 3, .int 0])), (a1, .inl (G.2.2.1 0, 150, .inl (upd (upd (upd (fun _ => 0) 0 (-1)) 1 (-1)) 2 (-8)))), (a2, .inl (G.2.2.1 0, 150, .inl (fun _ => 0))), (a3, .inl (G.2.2.1 0, 24, .inl (fun _ => 0)))]) 3 324 Q
  exact lw_return (pc := 34) rfl (by decide) (by decide) (fm_dec dtX1_init 16 rfl) (hq a1 a2 a3)
