-- THE CONSTRUCTOR OF LifeDrawer
set_option maxRecDepth 20000 in
theorem c_begin2 {l : Launch} {G : fmG} {M : fmM} {Q : fmR → fmM → Prop} (hst : l.stackTraces = false)  (hq : ∀ M', (∀ k, k ≠ 47 → k ≠ 48 → M'.1 k = M.1 k) → M'.1 47 1 = 0 → M'.1 47 2 = 0 → M'.1 47 3 = M.1 3 11 → M'.1 47 4 = 0 → M'.1 47 5 = 0 → M'.2 47 6 = 0 → Q (.inl none) M') : fmGood Tx l G 0 qX6_begin [.ref (G.1 47), .ref (G.1 3)] M Q := by
  refine fmGood_of hst (by decide +kernel) (Nat.le_of_ble_eq_true rfl) ?_
  show fmEv Tx l G 0 qX6_begin 0 [some (.ref (G.1 47)), some (.ref (G.1 3))] [] M Q
  refine fm_aloadn (pc := 0) (n := 1) 1 rfl rfl (fm_dec dtX6_begin 0 rfl) ?_
  refine fm_getR (k := 3) (j := 4) (ci := 8) (pc := 1) 8 rfl fl_X6_15 (by decide) rfl (by decide) (by decide) (fm_dec dtX6_begin 1 rfl) ?_
  refine fm_iconst (pc := 4) (v := 0) (by decide) (fm_dec dtX6_begin 2 rfl) ?_
  refine fm_aloadn (pc := 5) (n := 0) 0 rfl rfl (fm_dec dtX6_begin 3 rfl) ?_
  refine fm_getR (k := 47) (j := 0) (ci := 6) (pc := 6) 48 rfl fl_X6_9 (by decide) rfl (by decide) (by decide) (fm_dec dtX6_begin 4 rfl) ?_
  refine fm_iconst (pc := 9) (v := 0) (by decide) (fm_dec dtX6_begin 5 rfl) ?_
  refine fm_bipush (pc := 10) (v := 8) (by decide) (fm_dec dtX6_begin 6 rfl) ?_
  refine fm_copy (k0 := 8) (k1 := 48) (n0 := 8) (n1 := 8) (pc := 12) ca_X6_20 na_copy (by decide) rfl rfl (by decide) rfl rfl (by decide) (by decide) (by decide) (by decide) (by decide) (Nat.le_of_ble_eq_true rfl) (fm_dec dtX6_begin 7 rfl) ?_
  refine fm_aloadn (pc := 15) (n := 0) 0 rfl rfl (fm_dec dtX6_begin 8 rfl) ?_
  refine fm_iconst (pc := 16) (v := 0) (by decide) (fm_dec dtX6_begin 9 rfl) ?_
  refine fm_putI (k := 47) (j := 1) (ci := 6) (pc := 17) fl_X6_26 (by decide) rfl (by decide) rfl rfl (fm_dec dtX6_begin 10 rfl) ?_
  refine fm_aloadn (pc := 20) (n := 0) 0 rfl rfl (fm_dec dtX6_begin 11 rfl) ?_
  refine fm_iconst (pc := 21) (v := 0) (by decide) (fm_dec dtX6_begin 12 rfl) ?_
  refine fm_putI (k := 47) (j := 2) (ci := 6) (pc := 22) fl_X6_30 (by decide) rfl (by decide) rfl rfl (fm_dec dtX6_begin 13 rfl) ?_
  refine fm_aloadn (pc := 25) (n := 0) 0 rfl rfl (fm_dec dtX6_begin 14 rfl) ?_
  refine fm_aloadn (pc := 26) (n := 1) 1 rfl rfl (fm_dec dtX6_begin 15 rfl) ?_
  refine fm_getI (k := 3) (j := 11) (ci := 8) (pc := 27) fl_X6_33 (by decide) rfl (by decide) rfl (fm_dec dtX6_begin 16 rfl) ?_
  refine fm_putI (k := 47) (j := 3) (ci := 6) (pc := 30) fl_X6_36 (by decide) rfl (by decide) rfl rfl (fm_dec dtX6_begin 17 rfl) ?_
  refine fm_aloadn (pc := 33) (n := 0) 0 rfl rfl (fm_dec dtX6_begin 18 rfl) ?_
  refine fm_iconst (pc := 34) (v := 0) (by decide) (fm_dec dtX6_begin 19 rfl) ?_
  refine fm_putI (k := 47) (j := 4) (ci := 6) (pc := 35) fl_X6_39 (by decide) rfl (by decide) rfl rfl (fm_dec dtX6_begin 20 rfl) ?_
  refine fm_aloadn (pc := 38) (n := 0) 0 rfl rfl (fm_dec dtX6_begin 21 rfl) ?_
  refine fm_iconst (pc := 39) (v := 0) (by decide) (fm_dec dtX6_begin 22 rfl) ?_
  refine fm_putI (k := 47) (j := 5) (ci := 6) (pc := 40) fl_X6_42 (by decide) rfl (by decide) rfl rfl (fm_dec dtX6_begin 23 rfl) ?_
  refine fm_aloadn (pc := 43) (n := 0) 0 rfl rfl (fm_dec dtX6_begin 24 rfl) ?_
  refine fm_lconst (pc := 44) (v := 0) (by decide) (fm_dec dtX6_begin 25 rfl) ?_
  refine fm_putJ (k := 47) (j := 6) (ci := 6) (pc := 45) fl_X6_45 (by decide) rfl (by decide) rfl rfl (fm_dec dtX6_begin 26 rfl) ?_
  exact fm_return (pc := 48) rfl (fm_dec dtX6_begin 27 rfl) (hq _ (fun k h1 h2 => by simp [fmI, fmA, fmJ, h1, h2]) rfl rfl rfl rfl rfl rfl)

section LwRows4
variable {l : Launch} {G : fmG} {d mc ms : Nat} {y : fmY} {pc : Nat} {L : List (Option Value)} {st : List Value} {cu su : Nat} {Q : va_W → Prop}
/-- a reference read out of the flat world -/
theorem lw_getF {T : fmT} {g : Nat → Nat} {M : fmM} {w0 : va_W} {k j ci idx : Nat} (r : Nat) (hr : T.2.2.2 k j = r) (hf : fmFl y.1.cls idx ci j) (hk : k < T.1) (hkd : T.2.1 k = ci + 6) (hj : j < T.2.2.1 k) (hty : fmTy ci j ≠ .int ∧ fmTy ci j ≠ .long) (hdg : decode y.2.1 pc = .ok (.getfield idx, 3))
    (kk : lwEv l G d mc ms y (pc + 3) L (.ref (g r) :: st) (w0 ++ fmL T (g, G.2) M) cu su Q) : lwEv l G d mc ms y pc L (.ref (g k) :: st) (w0 ++ fmL T (g, G.2) M) cu su Q := by
  have he := fmL_obj (G := (g, G.2)) (M := M) (rest := []) hk hkd
  rw [List.append_nil] at he
  refine lw_get (i := k) he hf (v := .ref (g r)) ?_ hdg kk
  rw [List.getElem?_map, List.getElem?_range hj]
  show some (fmVal T (g, G.2) M k j (fmTy ci j)) = _
  unfold fmVal
  split
  · next h => exact absurd h hty.1
  · next h => exact absurd h hty.2
  · rw [hr]
end LwRows4
set_option maxRecDepth 20000 in
set_option maxHeartbeats 1000000 in
theorem k_X10_step {l : Launch} {G : fmG} {mc ms q aI k cu su : Nat} {i i' : Int32} {f : Nat → Option Nat} {fs : List Value} {X : va_W} {Q : va_W → Prop} (hfs : fs[10]? = some (.ref aI)) (hi : ¬ (3 : Int32) ≤ i) (hin : vp_in i 3) (h2 : i.toNatClampNeg = k) (h3 : i + 1 = i') (hc : cu + 36 ≤ mc) (hs : su + 274 ≤ ms)
    (hkk : ∀ (b a1 a2 a3 : Nat) (ss : List (Nat × Nat)), ss.length = 16 → lwEv l G 2 mc ms qX10_init 157 [some (.ref q), some (.int i')] [] ((aI, .inl (G.2.2.1 3, 3, .inr (.inr (.inr (.inr (va_up f k (some b))))))) :: (((q, .inr (10, fs)) :: X) ++ bShelf G b a1 a2 a3 ss)) (cu + 1 + 35) (su + 3 + 271) Q) : lwEv l G 2 mc ms qX10_init 157 [some (.ref q), some (.int i)] [] ((aI, .inl (G.2.2.1 3, 3, .inr (.inr (.inr (.inr (f)))))) :: ((q, .inr (10, fs)) :: X)) cu su Q := by
  refine lw_iloadn (pc := 157) (n := 1) 1 rfl rfl (fm_dec dtX10_init 74 rfl) ?_
  refine lw_iconst (pc := 158) (v := 3) (by decide) (fm_dec dtX10_init 75 rfl) ?_
  refine lw_icmp_ge (pc := 159) 181 (by decide) (fm_dec dtX10_init 76 rfl) (fun hc => absurd hc hi) (fun _ => ?_)
  refine lw_aloadn (pc := 162) (n := 0) 0 rfl rfl (fm_dec dtX10_init 77 rfl) ?_
  refine lw_get (pc := 163) (i := 0) (j := 10) (ci := 10) (w0 := [(aI, .inl (G.2.2.1 3, 3, .inr (.inr (.inr (.inr (f))))))]) (xs := (q, .inr (10, fs)) :: X) rfl fl_X10_79 hfs (fm_dec dtX10_init 78 rfl) ?_
  refine lw_iloadn (pc := 166) (n := 1) 1 rfl rfl (fm_dec dtX10_init 79 rfl) ?_
  refine lw_new (pc := 167) (ci := 5) (N := 3) (fs := [.null, .null, .int 0]) fk_5 rfl (fm_in 338 (by decide +kernel) rfl) (fm_in 339 (by decide +kernel) rfl) ni_X5 df_5 (by omega) (by omega) (fm_dec dtX10_init 80 rfl) (fun b => ?_)
  refine lw_dup (pc := 170) rfl (fm_dec dtX10_init 81 rfl) ?_
  refine lw_init (y' := qX5_init) (d' := 1) (mc' := 35) (ms' := 271) (pc := 171) (As := []) (st := [.ref b, .int i, .ref aI]) ⟨fm_in 340 (by decide +kernel) rfl, ni_X5, nc_X5_init, nd_X5_init, by decide⟩ nm_X5_init rfl rfl rfl rfl (Nat.le_of_ble_eq_true rfl) (by decide) (by omega) (by omega) (fm_dec dtX10_init 82 rfl) ?_
  refine k_X5_init (fun a1 a2 a3 ss hss => ?_)
  refine lw_astm (pc := 174) (t := 3) (ci := 5) (r := (RX5, TX5, 3)) (w1 := ((q, .inr (10, fs)) :: X) ++ bShelf G b a1 a2 a3 ss) (fun _ => rfl) (List.mem_append_right _ (List.mem_append_left _ List.mem_cons_self)) rfl hin (fm_dec dtX10_init 83 rfl) ?_
  rw [h2]
  refine lw_iincc (pc := 175) 1 1 (by decide) rfl (by decide) rfl (fm_dec dtX10_init 84 rfl) ?_
  dsimp only [List.set_cons_zero, List.set_cons_succ]
  rw [h3]
  refine lw_goto (pc := 178) 157 (by decide) (fm_dec dtX10_init 85 rfl) ?_
  exact hkk b a1 a2 a3 ss hss

def gSh (q a1 a2 a3 : Nat) (f : Nat → Nat × Nat) (r : Nat) : Nat := if r = 0 then q else if r = 1 then a1 else if r = 2 then a2 else if r = 3 then a3 else if r < 20 then (f (r - 4)).1 else (f (r - 20)).2
def gX (A : Nat → Nat) (s0 s1 s2 s3 : Nat → Nat) (k : Nat) : Nat := if k < 46 then A k else if k < 82 then s0 (k - 46) else if k < 118 then s1 (k - 82) else if k < 154 then s2 (k - 118) else s3 (k - 154)
def mX : fmM := fmI (fmI (fmI (fmI (fmI (fmI (fmI (fmI (fmI (fmI (fmI (fmI (fmI m00 1 5 (-1)) 3 11 8) 3 12 5) 3 13 3) 3 14 2) 13 11 8) 13 12 5) 13 13 3) 13 14 2) 24 0 (-1)) 24 1 (-1)) 24 2 (-8)) 23 3 3
theorem range_two {α : Type} (a b : Nat) (F : Nat → α) : (List.range (a + b)).map F = (List.range a).map F ++ (List.range b).map (fun i => F (a + i)) := by
  rw [List.range_add, List.map_append, List.map_map]; rfl
theorem ss16 {ss : List (Nat × Nat)} (h : ss.length = 16) : ∃ f : Nat → Nat × Nat, ss = (List.range 16).map f :=
  ⟨fun i => ss.getD i (0, 0), List.ext_getElem (by simp [h]) (fun i h1 h2 => by simp [h1])⟩

def b46 (G : fmG) (A s0 : Nat → Nat) (fR : Nat → Option Nat) : va_W := [(A 0, .inr (10, [.ref (A 1), .ref (A 3), .ref (A 13), .ref (A 23), .ref (A 27), .ref (A 28), .ref (A 32), .ref (A 34), .ref (A 39), .ref (s0 0), .ref (A 43), .ref (A 44), .ref (A 45), .int 0, .int 0, .int 0, .int 0]))] ++ (bTape G (A 1) (A 2) ++ (bTold G (A 3) (A 4) (A 5) (A 6) (A 7) (A 8) (A 9) (A 10) (A 11) (A 12) ++ (bTold G (A 13) (A 14) (A 15) (A 16) (A 17) (A 18) (A 19) (A 20) (A 21) (A 22) ++ (bLaw G (A 23) (A 24) (A 25) (A 26) ++ (bPage G (A 27) ++ (bWork G (A 28) (A 29) (A 30) (A 31) ++ (bDesk G (A 32) (A 3) (A 23) (A 33) ++ (bPlan G (A 34) (A 32) (A 35) (A 36) (A 37) (A 38) ++ (bSeeds G (A 39) (A 32) (A 41) (A 42) (A 40) ++ ([(A 43, .inl (G.2.2.1 3, 3, .inr (.inr (.inr (.inr (fR)))))), (A 44, .inl (G.2.2.1 0, 8, .inl (fun _ => 0))), (A 45, .inl (G.2.2.1 0, 201, .inl (fun _ => 0)))]))))))))))
set_option maxRecDepth 100000 in
set_option maxHeartbeats 4000000 in
theorem wx46 {G : fmG} {A s0 s1 s2 s3 : Nat → Nat} : (List.range 46).map (fun k => (gX A s0 s1 s2 s3 k, fmEnt Tx (gX A s0 s1 s2 s3, G.2) mX k)) = b46 G A s0 (fmRow Tx (gX A s0 s1 s2 s3, G.2) 43) := by rfl
theorem row43 {G : fmG} {A s0 s1 s2 s3 : Nat → Nat} : va_up (va_up (va_up (fun _ => none) 0 (some (s1 0))) 1 (some (s2 0))) 2 (some (s3 0)) = fmRow Tx (gX A s0 s1 s2 s3, G.2) 43 := by
  funext i
  match i with
  | 0 => rfl
  | 1 => rfl
  | 2 => rfl
  | n + 3 =>
    show _ = if n + 3 < 3 then _ else none
    rw [if_neg (by omega)]
    simp [va_up]
set_option maxRecDepth 100000 in
theorem rowS0 {G : fmG} {A s1 s2 s3 : Nat → Nat} {q a1 a2 a3 : Nat} {f : Nat → Nat × Nat} : fmRow Tx (gX A (gSh q a1 a2 a3 f) s1 s2 s3, G.2) 49 = rowOf ((List.range 16).map f) := by
  funext i
  rcases Nat.lt_or_ge i 16 with h | h
  · rcases (show i = 0 ∨ i = 1 ∨ i = 2 ∨ i = 3 ∨ i = 4 ∨ i = 5 ∨ i = 6 ∨ i = 7 ∨ i = 8 ∨ i = 9 ∨ i = 10 ∨ i = 11 ∨ i = 12 ∨ i = 13 ∨ i = 14 ∨ i = 15 by omega) with rfl | rfl | rfl | rfl | rfl | rfl | rfl | rfl | rfl | rfl | rfl | rfl | rfl | rfl | rfl | rfl <;> rfl
  · show (if i < 16 then _ else none) = _
    rw [if_neg (by omega)]
    unfold rowOf
    rw [List.getElem?_eq_none (by simp; omega)]; rfl
set_option maxRecDepth 100000 in
set_option maxHeartbeats 4000000 in
theorem wxS0 {G : fmG} {A s1 s2 s3 : Nat → Nat} {q a1 a2 a3 : Nat} {f : Nat → Nat × Nat} : (List.range 36).map (fun i => (gX A (gSh q a1 a2 a3 f) s1 s2 s3 (46 + i), fmEnt Tx (gX A (gSh q a1 a2 a3 f) s1 s2 s3, G.2) mX (46 + i))) = bShelf G q a1 a2 a3 ((List.range 16).map f) := by
  unfold bShelf
  rw [← rowS0 (G := G) (A := A) (s1 := s1) (s2 := s2) (s3 := s3) (q := q) (a1 := a1) (a2 := a2) (a3 := a3)]
  rfl
set_option maxRecDepth 100000 in
theorem rowS1 {G : fmG} {A s0 s2 s3 : Nat → Nat} {q a1 a2 a3 : Nat} {f : Nat → Nat × Nat} : fmRow Tx (gX A s0 (gSh q a1 a2 a3 f) s2 s3, G.2) 85 = rowOf ((List.range 16).map f) := by
  funext i
  rcases Nat.lt_or_ge i 16 with h | h
  · rcases (show i = 0 ∨ i = 1 ∨ i = 2 ∨ i = 3 ∨ i = 4 ∨ i = 5 ∨ i = 6 ∨ i = 7 ∨ i = 8 ∨ i = 9 ∨ i = 10 ∨ i = 11 ∨ i = 12 ∨ i = 13 ∨ i = 14 ∨ i = 15 by omega) with rfl | rfl | rfl | rfl | rfl | rfl | rfl | rfl | rfl | rfl | rfl | rfl | rfl | rfl | rfl | rfl <;> rfl
  · show (if i < 16 then _ else none) = _
    rw [if_neg (by omega)]
    unfold rowOf
    rw [List.getElem?_eq_none (by simp; omega)]; rfl
set_option maxRecDepth 100000 in
set_option maxHeartbeats 4000000 in
theorem wxS1 {G : fmG} {A s0 s2 s3 : Nat → Nat} {q a1 a2 a3 : Nat} {f : Nat → Nat × Nat} : (List.range 36).map (fun i => (gX A s0 (gSh q a1 a2 a3 f) s2 s3 (82 + i), fmEnt Tx (gX A s0 (gSh q a1 a2 a3 f) s2 s3, G.2) mX (82 + i))) = bShelf G q a1 a2 a3 ((List.range 16).map f) := by
  unfold bShelf
  rw [← rowS1 (G := G) (A := A) (s0 := s0) (s2 := s2) (s3 := s3) (q := q) (a1 := a1) (a2 := a2) (a3 := a3)]
  rfl
set_option maxRecDepth 100000 in
theorem rowS2 {G : fmG} {A s0 s1 s3 : Nat → Nat} {q a1 a2 a3 : Nat} {f : Nat → Nat × Nat} : fmRow Tx (gX A s0 s1 (gSh q a1 a2 a3 f) s3, G.2) 121 = rowOf ((List.range 16).map f) := by
  funext i
  rcases Nat.lt_or_ge i 16 with h | h
  · rcases (show i = 0 ∨ i = 1 ∨ i = 2 ∨ i = 3 ∨ i = 4 ∨ i = 5 ∨ i = 6 ∨ i = 7 ∨ i = 8 ∨ i = 9 ∨ i = 10 ∨ i = 11 ∨ i = 12 ∨ i = 13 ∨ i = 14 ∨ i = 15 by omega) with rfl | rfl | rfl | rfl | rfl | rfl | rfl | rfl | rfl | rfl | rfl | rfl | rfl | rfl | rfl | rfl <;> rfl
  · show (if i < 16 then _ else none) = _
    rw [if_neg (by omega)]
    unfold rowOf
    rw [List.getElem?_eq_none (by simp; omega)]; rfl
set_option maxRecDepth 100000 in
set_option maxHeartbeats 4000000 in
theorem wxS2 {G : fmG} {A s0 s1 s3 : Nat → Nat} {q a1 a2 a3 : Nat} {f : Nat → Nat × Nat} : (List.range 36).map (fun i => (gX A s0 s1 (gSh q a1 a2 a3 f) s3 (118 + i), fmEnt Tx (gX A s0 s1 (gSh q a1 a2 a3 f) s3, G.2) mX (118 + i))) = bShelf G q a1 a2 a3 ((List.range 16).map f) := by
  unfold bShelf
  rw [← rowS2 (G := G) (A := A) (s0 := s0) (s1 := s1) (s3 := s3) (q := q) (a1 := a1) (a2 := a2) (a3 := a3)]
  rfl
set_option maxRecDepth 100000 in
theorem rowS3 {G : fmG} {A s0 s1 s2 : Nat → Nat} {q a1 a2 a3 : Nat} {f : Nat → Nat × Nat} : fmRow Tx (gX A s0 s1 s2 (gSh q a1 a2 a3 f), G.2) 157 = rowOf ((List.range 16).map f) := by
  funext i
  rcases Nat.lt_or_ge i 16 with h | h
  · rcases (show i = 0 ∨ i = 1 ∨ i = 2 ∨ i = 3 ∨ i = 4 ∨ i = 5 ∨ i = 6 ∨ i = 7 ∨ i = 8 ∨ i = 9 ∨ i = 10 ∨ i = 11 ∨ i = 12 ∨ i = 13 ∨ i = 14 ∨ i = 15 by omega) with rfl | rfl | rfl | rfl | rfl | rfl | rfl | rfl | rfl | rfl | rfl | rfl | rfl | rfl | rfl | rfl <;> rfl
  · show (if i < 16 then _ else none) = _
    rw [if_neg (by omega)]
    unfold rowOf
    rw [List.getElem?_eq_none (by simp; omega)]; rfl
set_option maxRecDepth 100000 in
set_option maxHeartbeats 4000000 in
theorem wxS3 {G : fmG} {A s0 s1 s2 : Nat → Nat} {q a1 a2 a3 : Nat} {f : Nat → Nat × Nat} : (List.range 36).map (fun i => (gX A s0 s1 s2 (gSh q a1 a2 a3 f) (154 + i), fmEnt Tx (gX A s0 s1 s2 (gSh q a1 a2 a3 f), G.2) mX (154 + i))) = bShelf G q a1 a2 a3 ((List.range 16).map f) := by
  unfold bShelf
  rw [← rowS3 (G := G) (A := A) (s0 := s0) (s1 := s1) (s2 := s2) (q := q) (a1 := a1) (a2 := a2) (a3 := a3)]
  rfl
theorem wx_all {G : fmG} {A : Nat → Nat} {q0 q1 q2 q3 a1 a2 a3 b1 b2 b3 c1 c2 c3 d1 d2 d3 : Nat} {f0 f1 f2 f3 : Nat → Nat × Nat} : fmL Tx (gX A (gSh q0 a1 a2 a3 f0) (gSh q1 b1 b2 b3 f1) (gSh q2 c1 c2 c3 f2) (gSh q3 d1 d2 d3 f3), G.2) mX = b46 G A (gSh q0 a1 a2 a3 f0) (va_up (va_up (va_up (fun _ => none) 0 (some q1)) 1 (some q2)) 2 (some q3)) ++ (bShelf G q0 a1 a2 a3 ((List.range 16).map f0) ++ (bShelf G q1 b1 b2 b3 ((List.range 16).map f1) ++ (bShelf G q2 c1 c2 c3 ((List.range 16).map f2) ++ bShelf G q3 d1 d2 d3 ((List.range 16).map f3)))) := by
  unfold fmL
  rw [show (Tx : fmT).1 = 46 + (36 + (36 + (36 + 36))) from rfl, range_two, range_two, range_two, range_two, wx46, ← row43]
  simp only [← Nat.add_assoc]
  rw [← wxS0 (A := A) (s1 := gSh q1 b1 b2 b3 f1) (s2 := gSh q2 c1 c2 c3 f2) (s3 := gSh q3 d1 d2 d3 f3), ← wxS1 (A := A) (s0 := gSh q0 a1 a2 a3 f0) (s2 := gSh q2 c1 c2 c3 f2) (s3 := gSh q3 d1 d2 d3 f3), ← wxS2 (A := A) (s0 := gSh q0 a1 a2 a3 f0) (s1 := gSh q1 b1 b2 b3 f1) (s3 := gSh q3 d1 d2 d3 f3), ← wxS3 (A := A) (s0 := gSh q0 a1 a2 a3 f0) (s1 := gSh q1 b1 b2 b3 f1) (s2 := gSh q2 c1 c2 c3 f2)]
  rfl
/-- what a fresh object of the class holds -/
def xInit (M : fmM) : Prop := (∀ k, k ≠ 47 → k ≠ 48 → M.1 k = mX.1 k) ∧ M.1 47 1 = 0 ∧ M.1 47 2 = 0 ∧ M.1 47 3 = 8 ∧ M.1 47 4 = 0 ∧ M.1 47 5 = 0 ∧ M.2 47 6 = 0
set_option maxRecDepth 20000 in
set_option maxHeartbeats 1000000 in
theorem k_X10_init {l : Launch} {G : fmG} {w0 : va_W} {q : Nat} {Q : va_W → Prop} (hst : l.stackTraces = false) (hq : ∀ (g : Nat → Nat) (M : fmM), g 0 = q → xInit M → Q (w0 ++ fmL Tx (g, G.2) M)) : lwGood l G 2 189 5251 qX10_init [.ref q] (w0 ++ [(q, .inr (10, [.null, .null, .null, .null, .null, .null, .null, .null, .null, .null, .null, .null, .null, .int 0, .int 0, .int 0, .int 0]))]) Q := by
  refine lwGood_of (by decide +kernel) (Nat.le_of_ble_eq_true rfl) ?_
  show lwEv l G 2 189 5251 qX10_init 0 [some (.ref q), none] [] (w0 ++ [(q, .inr (10, [.null, .null, .null, .null, .null, .null, .null, .null, .null, .null, .null, .null, .null, .int 0, .int 0, .int 0, .int 0]))]) 0 0 Q
  refine lw_aloadn (pc := 0) (n := 0) 0 rfl rfl (fm_dec dtX10_init 0 rfl) ?_
  refine lw_obj (pc := 1) (fm_in 31 (by decide +kernel) rfl) (Nat.le_of_ble_eq_true rfl) (fm_dec dtX10_init 1 rfl) ?_
  refine lw_aloadn (pc := 4) (n := 0) 0 rfl rfl (fm_dec dtX10_init 2 rfl) ?_
  refine lw_new (pc := 5) (ci := 7) (N := 6) (fs := [.null, .int 0, .int 0, .int 0, .int 0, .int 0]) fk_7 rfl (fm_in 34 (by decide +kernel) rfl) (fm_in 35 (by decide +kernel) rfl) ni_X7 df_7 (by decide) (by decide) (fm_dec dtX10_init 3 rfl) (fun a1 => ?_)
  refine lw_assoc ?_
  show lwEv l G 2 189 5251 qX10_init 8 [some (.ref q), none] [.ref a1, .ref q] (w0 ++ [(q, .inr (10, [.null, .null, .null, .null, .null, .null, .null, .null, .null, .null, .null, .null, .null, .int 0, .int 0, .int 0, .int 0])), (a1, .inr (7, [.null, .int 0, .int 0, .int 0, .int 0, .int 0]))]) 1 6 Q
  refine lw_dup (pc := 8) rfl (fm_dec dtX10_init 4 rfl) ?_
  refine lw_init (y' := qX7_init) (d' := 0) (mc' := 1) (ms' := 600) (pc := 9) (As := []) (st := [.ref a1, .ref q]) ⟨fm_in 36 (by decide +kernel) rfl, ni_X7, nc_X7_init, nd_X7_init, by decide⟩ nm_X7_init rfl rfl rfl rfl (Nat.le_of_ble_eq_true rfl) (by decide) (by decide) (by decide) (fm_dec dtX10_init 5 rfl) ?_
  refine lwGood_assoc (w1 := w0) (w2 := [(q, .inr (10, [.null, .null, .null, .null, .null, .null, .null, .null, .null, .null, .null, .null, .null, .int 0, .int 0, .int 0, .int 0]))]) (w3 := [(a1, .inr (7, [.null, .int 0, .int 0, .int 0, .int 0, .int 0]))]) ?_
  refine k_X7_init (fun a2 => ?_)
  refine lw_assoc ?_
  show lwEv l G 2 189 5251 qX10_init 12 [some (.ref q), none] [.ref a1, .ref q] (w0 ++ ([(q, .inr (10, [.null, .null, .null, .null, .null, .null, .null, .null, .null, .null, .null, .null, .null, .int 0, .int 0, .int 0, .int 0]))] ++ bTape G a1 a2)) 2 606 Q
  refine lw_put (pc := 12) (i := 0) (j := 0) (ci := 10) (w0 := w0) rfl fl_X10_12 (fun _ => ⟨rfl, fun r hr => by cases hr; rfl⟩) rfl rfl (fm_lt rfl) (fm_dec dtX10_init 6 rfl) ?_
  show lwEv l G 2 189 5251 qX10_init 15 [some (.ref q), none] [] (w0 ++ ([(q, .inr (10, [.ref a1, .null, .null, .null, .null, .null, .null, .null, .null, .null, .null, .null, .null, .int 0, .int 0, .int 0, .int 0]))] ++ bTape G a1 a2)) 2 606 Q
  refine lw_aloadn (pc := 15) (n := 0) 0 rfl rfl (fm_dec dtX10_init 7 rfl) ?_
  refine lw_new (pc := 16) (ci := 8) (N := 15) (fs := [.null, .null, .null, .null, .null, .null, .null, .null, .null, .int 0, .int 0, .int 0, .int 0, .int 0, .int 0]) fk_8 rfl (fm_in 65 (by decide +kernel) rfl) (fm_in 66 (by decide +kernel) rfl) ni_X8 df_8 (by decide) (by decide) (fm_dec dtX10_init 8 rfl) (fun a3 => ?_)
  refine lw_assoc ?_
  show lwEv l G 2 189 5251 qX10_init 19 [some (.ref q), none] [.ref a3, .ref q] (w0 ++ (([(q, .inr (10, [.ref a1, .null, .null, .null, .null, .null, .null, .null, .null, .null, .null, .null, .null, .int 0, .int 0, .int 0, .int 0]))] ++ bTape G a1 a2) ++ [(a3, .inr (8, [.null, .null, .null, .null, .null, .null, .null, .null, .null, .int 0, .int 0, .int 0, .int 0, .int 0, .int 0]))])) 3 621 Q
  refine lw_dup (pc := 19) rfl (fm_dec dtX10_init 9 rfl) ?_
  refine lw_init (y' := qX8_init) (d' := 1) (mc' := 9) (ms' := 120) (pc := 20) (As := []) (st := [.ref a3, .ref q]) ⟨fm_in 67 (by decide +kernel) rfl, ni_X8, nc_X8_init, nd_X8_init, by decide⟩ nm_X8_init rfl rfl rfl rfl (Nat.le_of_ble_eq_true rfl) (by decide) (by decide) (by decide) (fm_dec dtX10_init 10 rfl) ?_
  refine lwGood_assoc (w1 := w0) (w2 := ([(q, .inr (10, [.ref a1, .null, .null, .null, .null, .null, .null, .null, .null, .null, .null, .null, .null, .int 0, .int 0, .int 0, .int 0]))] ++ bTape G a1 a2)) (w3 := [(a3, .inr (8, [.null, .null, .null, .null, .null, .null, .null, .null, .null, .int 0, .int 0, .int 0, .int 0, .int 0, .int 0]))]) ?_
  refine k_X8_init hst (fun a4 a5 a6 a7 a8 a9 a10 a11 a12 => ?_)
  refine lw_assoc ?_
  show lwEv l G 2 189 5251 qX10_init 23 [some (.ref q), none] [.ref a3, .ref q] (w0 ++ (([(q, .inr (10, [.ref a1, .null, .null, .null, .null, .null, .null, .null, .null, .null, .null, .null, .null, .int 0, .int 0, .int 0, .int 0]))] ++ bTape G a1 a2) ++ bTold G a3 a4 a5 a6 a7 a8 a9 a10 a11 a12)) 12 741 Q
  refine lw_put (pc := 23) (i := 0) (j := 1) (ci := 10) (w0 := w0) rfl fl_X10_19 (fun _ => ⟨rfl, fun r hr => by cases hr; rfl⟩) rfl rfl (fm_lt rfl) (fm_dec dtX10_init 11 rfl) ?_
  show lwEv l G 2 189 5251 qX10_init 26 [some (.ref q), none] [] (w0 ++ (([(q, .inr (10, [.ref a1, .ref a3, .null, .null, .null, .null, .null, .null, .null, .null, .null, .null, .null, .int 0, .int 0, .int 0, .int 0]))] ++ bTape G a1 a2) ++ bTold G a3 a4 a5 a6 a7 a8 a9 a10 a11 a12)) 12 741 Q
  refine lw_aloadn (pc := 26) (n := 0) 0 rfl rfl (fm_dec dtX10_init 12 rfl) ?_
  refine lw_new (pc := 27) (ci := 8) (N := 15) (fs := [.null, .null, .null, .null, .null, .null, .null, .null, .null, .int 0, .int 0, .int 0, .int 0, .int 0, .int 0]) fk_8 rfl (fm_in 65 (by decide +kernel) rfl) (fm_in 66 (by decide +kernel) rfl) ni_X8 df_8 (by decide) (by decide) (fm_dec dtX10_init 13 rfl) (fun a13 => ?_)
  refine lw_assoc ?_
  show lwEv l G 2 189 5251 qX10_init 30 [some (.ref q), none] [.ref a13, .ref q] (w0 ++ ((([(q, .inr (10, [.ref a1, .ref a3, .null, .null, .null, .null, .null, .null, .null, .null, .null, .null, .null, .int 0, .int 0, .int 0, .int 0]))] ++ bTape G a1 a2) ++ bTold G a3 a4 a5 a6 a7 a8 a9 a10 a11 a12) ++ [(a13, .inr (8, [.null, .null, .null, .null, .null, .null, .null, .null, .null, .int 0, .int 0, .int 0, .int 0, .int 0, .int 0]))])) 13 756 Q
  refine lw_dup (pc := 30) rfl (fm_dec dtX10_init 14 rfl) ?_
  refine lw_init (y' := qX8_init) (d' := 1) (mc' := 9) (ms' := 120) (pc := 31) (As := []) (st := [.ref a13, .ref q]) ⟨fm_in 67 (by decide +kernel) rfl, ni_X8, nc_X8_init, nd_X8_init, by decide⟩ nm_X8_init rfl rfl rfl rfl (Nat.le_of_ble_eq_true rfl) (by decide) (by decide) (by decide) (fm_dec dtX10_init 15 rfl) ?_
  refine lwGood_assoc (w1 := w0) (w2 := (([(q, .inr (10, [.ref a1, .ref a3, .null, .null, .null, .null, .null, .null, .null, .null, .null, .null, .null, .int 0, .int 0, .int 0, .int 0]))] ++ bTape G a1 a2) ++ bTold G a3 a4 a5 a6 a7 a8 a9 a10 a11 a12)) (w3 := [(a13, .inr (8, [.null, .null, .null, .null, .null, .null, .null, .null, .null, .int 0, .int 0, .int 0, .int 0, .int 0, .int 0]))]) ?_
  refine k_X8_init hst (fun a14 a15 a16 a17 a18 a19 a20 a21 a22 => ?_)
  refine lw_assoc ?_
  show lwEv l G 2 189 5251 qX10_init 34 [some (.ref q), none] [.ref a13, .ref q] (w0 ++ ((([(q, .inr (10, [.ref a1, .ref a3, .null, .null, .null, .null, .null, .null, .null, .null, .null, .null, .null, .int 0, .int 0, .int 0, .int 0]))] ++ bTape G a1 a2) ++ bTold G a3 a4 a5 a6 a7 a8 a9 a10 a11 a12) ++ bTold G a13 a14 a15 a16 a17 a18 a19 a20 a21 a22)) 22 876 Q
  refine lw_put (pc := 34) (i := 0) (j := 2) (ci := 10) (w0 := w0) rfl fl_X10_23 (fun _ => ⟨rfl, fun r hr => by cases hr; rfl⟩) rfl rfl (fm_lt rfl) (fm_dec dtX10_init 16 rfl) ?_
  show lwEv l G 2 189 5251 qX10_init 37 [some (.ref q), none] [] (w0 ++ ((([(q, .inr (10, [.ref a1, .ref a3, .ref a13, .null, .null, .null, .null, .null, .null, .null, .null, .null, .null, .int 0, .int 0, .int 0, .int 0]))] ++ bTape G a1 a2) ++ bTold G a3 a4 a5 a6 a7 a8 a9 a10 a11 a12) ++ bTold G a13 a14 a15 a16 a17 a18 a19 a20 a21 a22)) 22 876 Q
  refine lw_aloadn (pc := 37) (n := 0) 0 rfl rfl (fm_dec dtX10_init 17 rfl) ?_
  refine lw_new (pc := 38) (ci := 1) (N := 5) (fs := [.null, .null, .null, .int 0, .int 0]) fk_1 rfl (fm_in 144 (by decide +kernel) rfl) (fm_in 145 (by decide +kernel) rfl) ni_X1 df_1 (by decide) (by decide) (fm_dec dtX10_init 18 rfl) (fun a23 => ?_)
  refine lw_assoc ?_
  show lwEv l G 2 189 5251 qX10_init 41 [some (.ref q), none] [.ref a23, .ref q] (w0 ++ (((([(q, .inr (10, [.ref a1, .ref a3, .ref a13, .null, .null, .null, .null, .null, .null, .null, .null, .null, .null, .int 0, .int 0, .int 0, .int 0]))] ++ bTape G a1 a2) ++ bTold G a3 a4 a5 a6 a7 a8 a9 a10 a11 a12) ++ bTold G a13 a14 a15 a16 a17 a18 a19 a20 a21 a22) ++ [(a23, .inr (1, [.null, .null, .null, .int 0, .int 0]))])) 23 881 Q
  refine lw_dup (pc := 41) rfl (fm_dec dtX10_init 19 rfl) ?_
  refine lw_init (y' := qX1_init) (d' := 1) (mc' := 3) (ms' := 324) (pc := 42) (As := []) (st := [.ref a23, .ref q]) ⟨fm_in 146 (by decide +kernel) rfl, ni_X1, nc_X1_init, nd_X1_init, by decide⟩ nm_X1_init rfl rfl rfl rfl (Nat.le_of_ble_eq_true rfl) (by decide) (by decide) (by decide) (fm_dec dtX10_init 20 rfl) ?_
  refine lwGood_assoc (w1 := w0) (w2 := ((([(q, .inr (10, [.ref a1, .ref a3, .ref a13, .null, .null, .null, .null, .null, .null, .null, .null, .null, .null, .int 0, .int 0, .int 0, .int 0]))] ++ bTape G a1 a2) ++ bTold G a3 a4 a5 a6 a7 a8 a9 a10 a11 a12) ++ bTold G a13 a14 a15 a16 a17 a18 a19 a20 a21 a22)) (w3 := [(a23, .inr (1, [.null, .null, .null, .int 0, .int 0]))]) ?_
  refine k_X1_init hst (fun a24 a25 a26 => ?_)
  refine lw_assoc ?_
  show lwEv l G 2 189 5251 qX10_init 45 [some (.ref q), none] [.ref a23, .ref q] (w0 ++ (((([(q, .inr (10, [.ref a1, .ref a3, .ref a13, .null, .null, .null, .null, .null, .null, .null, .null, .null, .null, .int 0, .int 0, .int 0, .int 0]))] ++ bTape G a1 a2) ++ bTold G a3 a4 a5 a6 a7 a8 a9 a10 a11 a12) ++ bTold G a13 a14 a15 a16 a17 a18 a19 a20 a21 a22) ++ bLaw G a23 a24 a25 a26)) 26 1205 Q
  refine lw_put (pc := 45) (i := 0) (j := 3) (ci := 10) (w0 := w0) rfl fl_X10_29 (fun _ => ⟨rfl, fun r hr => by cases hr; rfl⟩) rfl rfl (fm_lt rfl) (fm_dec dtX10_init 21 rfl) ?_
  show lwEv l G 2 189 5251 qX10_init 48 [some (.ref q), none] [] (w0 ++ (((([(q, .inr (10, [.ref a1, .ref a3, .ref a13, .ref a23, .null, .null, .null, .null, .null, .null, .null, .null, .null, .int 0, .int 0, .int 0, .int 0]))] ++ bTape G a1 a2) ++ bTold G a3 a4 a5 a6 a7 a8 a9 a10 a11 a12) ++ bTold G a13 a14 a15 a16 a17 a18 a19 a20 a21 a22) ++ bLaw G a23 a24 a25 a26)) 26 1205 Q
  refine lw_aloadn (pc := 48) (n := 0) 0 rfl rfl (fm_dec dtX10_init 22 rfl) ?_
  refine lw_new (pc := 49) (ci := 2) (N := 3) (fs := [.int 0, .int 0, .int 0]) fk_2 rfl (fm_in 170 (by decide +kernel) rfl) (fm_in 171 (by decide +kernel) rfl) ni_X2 df_2 (by decide) (by decide) (fm_dec dtX10_init 23 rfl) (fun a27 => ?_)
  refine lw_assoc ?_
  show lwEv l G 2 189 5251 qX10_init 52 [some (.ref q), none] [.ref a27, .ref q] (w0 ++ ((((([(q, .inr (10, [.ref a1, .ref a3, .ref a13, .ref a23, .null, .null, .null, .null, .null, .null, .null, .null, .null, .int 0, .int 0, .int 0, .int 0]))] ++ bTape G a1 a2) ++ bTold G a3 a4 a5 a6 a7 a8 a9 a10 a11 a12) ++ bTold G a13 a14 a15 a16 a17 a18 a19 a20 a21 a22) ++ bLaw G a23 a24 a25 a26) ++ [(a27, .inr (2, [.int 0, .int 0, .int 0]))])) 27 1208 Q
  refine lw_dup (pc := 52) rfl (fm_dec dtX10_init 24 rfl) ?_
  refine lw_init (y' := qX2_init) (d' := 0) (mc' := 0) (ms' := 0) (pc := 53) (As := []) (st := [.ref a27, .ref q]) ⟨fm_in 172 (by decide +kernel) rfl, ni_X2, nc_X2_init, nd_X2_init, by decide⟩ nm_X2_init rfl rfl rfl rfl (Nat.le_of_ble_eq_true rfl) (by decide) (by decide) (by decide) (fm_dec dtX10_init 25 rfl) ?_
  refine lwGood_assoc (w1 := w0) (w2 := (((([(q, .inr (10, [.ref a1, .ref a3, .ref a13, .ref a23, .null, .null, .null, .null, .null, .null, .null, .null, .null, .int 0, .int 0, .int 0, .int 0]))] ++ bTape G a1 a2) ++ bTold G a3 a4 a5 a6 a7 a8 a9 a10 a11 a12) ++ bTold G a13 a14 a15 a16 a17 a18 a19 a20 a21 a22) ++ bLaw G a23 a24 a25 a26)) (w3 := [(a27, .inr (2, [.int 0, .int 0, .int 0]))]) ?_
  refine k_X2_init ?_
  refine lw_assoc ?_
  show lwEv l G 2 189 5251 qX10_init 56 [some (.ref q), none] [.ref a27, .ref q] (w0 ++ ((((([(q, .inr (10, [.ref a1, .ref a3, .ref a13, .ref a23, .null, .null, .null, .null, .null, .null, .null, .null, .null, .int 0, .int 0, .int 0, .int 0]))] ++ bTape G a1 a2) ++ bTold G a3 a4 a5 a6 a7 a8 a9 a10 a11 a12) ++ bTold G a13 a14 a15 a16 a17 a18 a19 a20 a21 a22) ++ bLaw G a23 a24 a25 a26) ++ bPage G a27)) 27 1208 Q
  refine lw_put (pc := 56) (i := 0) (j := 4) (ci := 10) (w0 := w0) rfl fl_X10_36 (fun _ => ⟨rfl, fun r hr => by cases hr; rfl⟩) rfl rfl (fm_lt rfl) (fm_dec dtX10_init 26 rfl) ?_
  show lwEv l G 2 189 5251 qX10_init 59 [some (.ref q), none] [] (w0 ++ ((((([(q, .inr (10, [.ref a1, .ref a3, .ref a13, .ref a23, .ref a27, .null, .null, .null, .null, .null, .null, .null, .null, .int 0, .int 0, .int 0, .int 0]))] ++ bTape G a1 a2) ++ bTold G a3 a4 a5 a6 a7 a8 a9 a10 a11 a12) ++ bTold G a13 a14 a15 a16 a17 a18 a19 a20 a21 a22) ++ bLaw G a23 a24 a25 a26) ++ bPage G a27)) 27 1208 Q
  refine lw_aloadn (pc := 59) (n := 0) 0 rfl rfl (fm_dec dtX10_init 27 rfl) ?_
  refine lw_new (pc := 60) (ci := 9) (N := 7) (fs := [.null, .null, .null, .int 0, .int 0, .int 0, .int 0]) fk_9 rfl (fm_in 187 (by decide +kernel) rfl) (fm_in 188 (by decide +kernel) rfl) ni_X9 df_9 (by decide) (by decide) (fm_dec dtX10_init 28 rfl) (fun a28 => ?_)
  refine lw_assoc ?_
  show lwEv l G 2 189 5251 qX10_init 63 [some (.ref q), none] [.ref a28, .ref q] (w0 ++ (((((([(q, .inr (10, [.ref a1, .ref a3, .ref a13, .ref a23, .ref a27, .null, .null, .null, .null, .null, .null, .null, .null, .int 0, .int 0, .int 0, .int 0]))] ++ bTape G a1 a2) ++ bTold G a3 a4 a5 a6 a7 a8 a9 a10 a11 a12) ++ bTold G a13 a14 a15 a16 a17 a18 a19 a20 a21 a22) ++ bLaw G a23 a24 a25 a26) ++ bPage G a27) ++ [(a28, .inr (9, [.null, .null, .null, .int 0, .int 0, .int 0, .int 0]))])) 28 1215 Q
  refine lw_dup (pc := 63) rfl (fm_dec dtX10_init 29 rfl) ?_
  refine lw_init (y' := qX9_init) (d' := 0) (mc' := 3) (ms' := 450) (pc := 64) (As := []) (st := [.ref a28, .ref q]) ⟨fm_in 189 (by decide +kernel) rfl, ni_X9, nc_X9_init, nd_X9_init, by decide⟩ nm_X9_init rfl rfl rfl rfl (Nat.le_of_ble_eq_true rfl) (by decide) (by decide) (by decide) (fm_dec dtX10_init 30 rfl) ?_
  refine lwGood_assoc (w1 := w0) (w2 := ((((([(q, .inr (10, [.ref a1, .ref a3, .ref a13, .ref a23, .ref a27, .null, .null, .null, .null, .null, .null, .null, .null, .int 0, .int 0, .int 0, .int 0]))] ++ bTape G a1 a2) ++ bTold G a3 a4 a5 a6 a7 a8 a9 a10 a11 a12) ++ bTold G a13 a14 a15 a16 a17 a18 a19 a20 a21 a22) ++ bLaw G a23 a24 a25 a26) ++ bPage G a27)) (w3 := [(a28, .inr (9, [.null, .null, .null, .int 0, .int 0, .int 0, .int 0]))]) ?_
  refine k_X9_init (fun a29 a30 a31 => ?_)
  refine lw_assoc ?_
  show lwEv l G 2 189 5251 qX10_init 67 [some (.ref q), none] [.ref a28, .ref q] (w0 ++ (((((([(q, .inr (10, [.ref a1, .ref a3, .ref a13, .ref a23, .ref a27, .null, .null, .null, .null, .null, .null, .null, .null, .int 0, .int 0, .int 0, .int 0]))] ++ bTape G a1 a2) ++ bTold G a3 a4 a5 a6 a7 a8 a9 a10 a11 a12) ++ bTold G a13 a14 a15 a16 a17 a18 a19 a20 a21 a22) ++ bLaw G a23 a24 a25 a26) ++ bPage G a27) ++ bWork G a28 a29 a30 a31)) 31 1665 Q
  refine lw_put (pc := 67) (i := 0) (j := 5) (ci := 10) (w0 := w0) rfl fl_X10_43 (fun _ => ⟨rfl, fun r hr => by cases hr; rfl⟩) rfl rfl (fm_lt rfl) (fm_dec dtX10_init 31 rfl) ?_
  show lwEv l G 2 189 5251 qX10_init 70 [some (.ref q), none] [] (w0 ++ (((((([(q, .inr (10, [.ref a1, .ref a3, .ref a13, .ref a23, .ref a27, .ref a28, .null, .null, .null, .null, .null, .null, .null, .int 0, .int 0, .int 0, .int 0]))] ++ bTape G a1 a2) ++ bTold G a3 a4 a5 a6 a7 a8 a9 a10 a11 a12) ++ bTold G a13 a14 a15 a16 a17 a18 a19 a20 a21 a22) ++ bLaw G a23 a24 a25 a26) ++ bPage G a27) ++ bWork G a28 a29 a30 a31)) 31 1665 Q
  refine lw_aloadn (pc := 70) (n := 0) 0 rfl rfl (fm_dec dtX10_init 32 rfl) ?_
  refine lw_new (pc := 71) (ci := 0) (N := 3) (fs := [.null, .null, .null]) fk_0 rfl (fm_in 218 (by decide +kernel) rfl) (fm_in 219 (by decide +kernel) rfl) ni_X0 df_0 (by decide) (by decide) (fm_dec dtX10_init 33 rfl) (fun a32 => ?_)
  refine lw_assoc ?_
  show lwEv l G 2 189 5251 qX10_init 74 [some (.ref q), none] [.ref a32, .ref q] (w0 ++ ((((((([(q, .inr (10, [.ref a1, .ref a3, .ref a13, .ref a23, .ref a27, .ref a28, .null, .null, .null, .null, .null, .null, .null, .int 0, .int 0, .int 0, .int 0]))] ++ bTape G a1 a2) ++ bTold G a3 a4 a5 a6 a7 a8 a9 a10 a11 a12) ++ bTold G a13 a14 a15 a16 a17 a18 a19 a20 a21 a22) ++ bLaw G a23 a24 a25 a26) ++ bPage G a27) ++ bWork G a28 a29 a30 a31) ++ [(a32, .inr (0, [.null, .null, .null]))])) 32 1668 Q
  refine lw_dup (pc := 74) rfl (fm_dec dtX10_init 34 rfl) ?_
  refine lw_aloadn (pc := 75) (n := 0) 0 rfl rfl (fm_dec dtX10_init 35 rfl) ?_
  refine lw_get (pc := 76) (i := 0) (j := 1) (ci := 10) (w0 := w0) rfl fl_X10_19 rfl (fm_dec dtX10_init 36 rfl) ?_
  show lwEv l G 2 189 5251 qX10_init 79 [some (.ref q), none] [.ref a3, .ref a32, .ref a32, .ref q] (w0 ++ ((((((([(q, .inr (10, [.ref a1, .ref a3, .ref a13, .ref a23, .ref a27, .ref a28, .null, .null, .null, .null, .null, .null, .null, .int 0, .int 0, .int 0, .int 0]))] ++ bTape G a1 a2) ++ bTold G a3 a4 a5 a6 a7 a8 a9 a10 a11 a12) ++ bTold G a13 a14 a15 a16 a17 a18 a19 a20 a21 a22) ++ bLaw G a23 a24 a25 a26) ++ bPage G a27) ++ bWork G a28 a29 a30 a31) ++ [(a32, .inr (0, [.null, .null, .null]))])) 32 1668 Q
  refine lw_aloadn (pc := 79) (n := 0) 0 rfl rfl (fm_dec dtX10_init 37 rfl) ?_
  refine lw_get (pc := 80) (i := 0) (j := 3) (ci := 10) (w0 := w0) rfl fl_X10_29 rfl (fm_dec dtX10_init 38 rfl) ?_
  show lwEv l G 2 189 5251 qX10_init 83 [some (.ref q), none] [.ref a23, .ref a3, .ref a32, .ref a32, .ref q] (w0 ++ ((((((([(q, .inr (10, [.ref a1, .ref a3, .ref a13, .ref a23, .ref a27, .ref a28, .null, .null, .null, .null, .null, .null, .null, .int 0, .int 0, .int 0, .int 0]))] ++ bTape G a1 a2) ++ bTold G a3 a4 a5 a6 a7 a8 a9 a10 a11 a12) ++ bTold G a13 a14 a15 a16 a17 a18 a19 a20 a21 a22) ++ bLaw G a23 a24 a25 a26) ++ bPage G a27) ++ bWork G a28 a29 a30 a31) ++ [(a32, .inr (0, [.null, .null, .null]))])) 32 1668 Q
  refine lw_init (y' := qX0_init) (d' := 0) (mc' := 1) (ms' := 8) (pc := 83) (As := [.ref a3, .ref a23]) (st := [.ref a32, .ref q]) ⟨fm_in 220 (by decide +kernel) rfl, ni_X0, nc_X0_init, nd_X0_init, by decide⟩ nm_X0_init rfl rfl rfl rfl (Nat.le_of_ble_eq_true rfl) (by decide) (by decide) (by decide) (fm_dec dtX10_init 39 rfl) ?_
  refine lwGood_assoc (w1 := w0) (w2 := (((((([(q, .inr (10, [.ref a1, .ref a3, .ref a13, .ref a23, .ref a27, .ref a28, .null, .null, .null, .null, .null, .null, .null, .int 0, .int 0, .int 0, .int 0]))] ++ bTape G a1 a2) ++ bTold G a3 a4 a5 a6 a7 a8 a9 a10 a11 a12) ++ bTold G a13 a14 a15 a16 a17 a18 a19 a20 a21 a22) ++ bLaw G a23 a24 a25 a26) ++ bPage G a27) ++ bWork G a28 a29 a30 a31)) (w3 := [(a32, .inr (0, [.null, .null, .null]))]) ?_
  refine k_X0_init (fun a33 => ?_)
  refine lw_assoc ?_
  show lwEv l G 2 189 5251 qX10_init 86 [some (.ref q), none] [.ref a32, .ref q] (w0 ++ ((((((([(q, .inr (10, [.ref a1, .ref a3, .ref a13, .ref a23, .ref a27, .ref a28, .null, .null, .null, .null, .null, .null, .null, .int 0, .int 0, .int 0, .int 0]))] ++ bTape G a1 a2) ++ bTold G a3 a4 a5 a6 a7 a8 a9 a10 a11 a12) ++ bTold G a13 a14 a15 a16 a17 a18 a19 a20 a21 a22) ++ bLaw G a23 a24 a25 a26) ++ bPage G a27) ++ bWork G a28 a29 a30 a31) ++ bDesk G a32 a3 a23 a33)) 33 1676 Q
  refine lw_put (pc := 86) (i := 0) (j := 6) (ci := 10) (w0 := w0) rfl fl_X10_52 (fun _ => ⟨rfl, fun r hr => by cases hr; rfl⟩) rfl rfl (fm_lt rfl) (fm_dec dtX10_init 40 rfl) ?_
  show lwEv l G 2 189 5251 qX10_init 89 [some (.ref q), none] [] (w0 ++ ((((((([(q, .inr (10, [.ref a1, .ref a3, .ref a13, .ref a23, .ref a27, .ref a28, .ref a32, .null, .null, .null, .null, .null, .null, .int 0, .int 0, .int 0, .int 0]))] ++ bTape G a1 a2) ++ bTold G a3 a4 a5 a6 a7 a8 a9 a10 a11 a12) ++ bTold G a13 a14 a15 a16 a17 a18 a19 a20 a21 a22) ++ bLaw G a23 a24 a25 a26) ++ bPage G a27) ++ bWork G a28 a29 a30 a31) ++ bDesk G a32 a3 a23 a33)) 33 1676 Q
  refine lw_aloadn (pc := 89) (n := 0) 0 rfl rfl (fm_dec dtX10_init 41 rfl) ?_
  refine lw_new (pc := 90) (ci := 3) (N := 7) (fs := [.null, .null, .null, .null, .null, .int 0, .long 0]) fk_3 rfl (fm_in 237 (by decide +kernel) rfl) (fm_in 238 (by decide +kernel) rfl) ni_X3 df_3 (by decide) (by decide) (fm_dec dtX10_init 42 rfl) (fun a34 => ?_)
  refine lw_assoc ?_
  show lwEv l G 2 189 5251 qX10_init 93 [some (.ref q), none] [.ref a34, .ref q] (w0 ++ (((((((([(q, .inr (10, [.ref a1, .ref a3, .ref a13, .ref a23, .ref a27, .ref a28, .ref a32, .null, .null, .null, .null, .null, .null, .int 0, .int 0, .int 0, .int 0]))] ++ bTape G a1 a2) ++ bTold G a3 a4 a5 a6 a7 a8 a9 a10 a11 a12) ++ bTold G a13 a14 a15 a16 a17 a18 a19 a20 a21 a22) ++ bLaw G a23 a24 a25 a26) ++ bPage G a27) ++ bWork G a28 a29 a30 a31) ++ bDesk G a32 a3 a23 a33) ++ [(a34, .inr (3, [.null, .null, .null, .null, .null, .int 0, .long 0]))])) 34 1683 Q
  refine lw_dup (pc := 93) rfl (fm_dec dtX10_init 43 rfl) ?_
  refine lw_aloadn (pc := 94) (n := 0) 0 rfl rfl (fm_dec dtX10_init 44 rfl) ?_
  refine lw_get (pc := 95) (i := 0) (j := 6) (ci := 10) (w0 := w0) rfl fl_X10_52 rfl (fm_dec dtX10_init 45 rfl) ?_
  show lwEv l G 2 189 5251 qX10_init 98 [some (.ref q), none] [.ref a32, .ref a34, .ref a34, .ref q] (w0 ++ (((((((([(q, .inr (10, [.ref a1, .ref a3, .ref a13, .ref a23, .ref a27, .ref a28, .ref a32, .null, .null, .null, .null, .null, .null, .int 0, .int 0, .int 0, .int 0]))] ++ bTape G a1 a2) ++ bTold G a3 a4 a5 a6 a7 a8 a9 a10 a11 a12) ++ bTold G a13 a14 a15 a16 a17 a18 a19 a20 a21 a22) ++ bLaw G a23 a24 a25 a26) ++ bPage G a27) ++ bWork G a28 a29 a30 a31) ++ bDesk G a32 a3 a23 a33) ++ [(a34, .inr (3, [.null, .null, .null, .null, .null, .int 0, .long 0]))])) 34 1683 Q
  refine lw_init (y' := qX3_init) (d' := 0) (mc' := 4) (ms' := 2232) (pc := 98) (As := [.ref a32]) (st := [.ref a34, .ref q]) ⟨fm_in 239 (by decide +kernel) rfl, ni_X3, nc_X3_init, nd_X3_init, by decide⟩ nm_X3_init rfl rfl rfl rfl (Nat.le_of_ble_eq_true rfl) (by decide) (by decide) (by decide) (fm_dec dtX10_init 46 rfl) ?_
  refine lwGood_assoc (w1 := w0) (w2 := ((((((([(q, .inr (10, [.ref a1, .ref a3, .ref a13, .ref a23, .ref a27, .ref a28, .ref a32, .null, .null, .null, .null, .null, .null, .int 0, .int 0, .int 0, .int 0]))] ++ bTape G a1 a2) ++ bTold G a3 a4 a5 a6 a7 a8 a9 a10 a11 a12) ++ bTold G a13 a14 a15 a16 a17 a18 a19 a20 a21 a22) ++ bLaw G a23 a24 a25 a26) ++ bPage G a27) ++ bWork G a28 a29 a30 a31) ++ bDesk G a32 a3 a23 a33)) (w3 := [(a34, .inr (3, [.null, .null, .null, .null, .null, .int 0, .long 0]))]) ?_
  refine k_X3_init (fun a35 a36 a37 a38 => ?_)
  refine lw_assoc ?_
  show lwEv l G 2 189 5251 qX10_init 101 [some (.ref q), none] [.ref a34, .ref q] (w0 ++ (((((((([(q, .inr (10, [.ref a1, .ref a3, .ref a13, .ref a23, .ref a27, .ref a28, .ref a32, .null, .null, .null, .null, .null, .null, .int 0, .int 0, .int 0, .int 0]))] ++ bTape G a1 a2) ++ bTold G a3 a4 a5 a6 a7 a8 a9 a10 a11 a12) ++ bTold G a13 a14 a15 a16 a17 a18 a19 a20 a21 a22) ++ bLaw G a23 a24 a25 a26) ++ bPage G a27) ++ bWork G a28 a29 a30 a31) ++ bDesk G a32 a3 a23 a33) ++ bPlan G a34 a32 a35 a36 a37 a38)) 38 3915 Q
  refine lw_put (pc := 101) (i := 0) (j := 7) (ci := 10) (w0 := w0) rfl fl_X10_61 (fun _ => ⟨rfl, fun r hr => by cases hr; rfl⟩) rfl rfl (fm_lt rfl) (fm_dec dtX10_init 47 rfl) ?_
  show lwEv l G 2 189 5251 qX10_init 104 [some (.ref q), none] [] (w0 ++ (((((((([(q, .inr (10, [.ref a1, .ref a3, .ref a13, .ref a23, .ref a27, .ref a28, .ref a32, .ref a34, .null, .null, .null, .null, .null, .int 0, .int 0, .int 0, .int 0]))] ++ bTape G a1 a2) ++ bTold G a3 a4 a5 a6 a7 a8 a9 a10 a11 a12) ++ bTold G a13 a14 a15 a16 a17 a18 a19 a20 a21 a22) ++ bLaw G a23 a24 a25 a26) ++ bPage G a27) ++ bWork G a28 a29 a30 a31) ++ bDesk G a32 a3 a23 a33) ++ bPlan G a34 a32 a35 a36 a37 a38)) 38 3915 Q
  refine lw_aloadn (pc := 104) (n := 0) 0 rfl rfl (fm_dec dtX10_init 48 rfl) ?_
  refine lw_new (pc := 105) (ci := 4) (N := 5) (fs := [.null, .int 0, .null, .null, .int 0]) fk_4 rfl (fm_in 265 (by decide +kernel) rfl) (fm_in 266 (by decide +kernel) rfl) ni_X4 df_4 (by decide) (by decide) (fm_dec dtX10_init 49 rfl) (fun a39 => ?_)
  refine lw_assoc ?_
  show lwEv l G 2 189 5251 qX10_init 108 [some (.ref q), none] [.ref a39, .ref q] (w0 ++ ((((((((([(q, .inr (10, [.ref a1, .ref a3, .ref a13, .ref a23, .ref a27, .ref a28, .ref a32, .ref a34, .null, .null, .null, .null, .null, .int 0, .int 0, .int 0, .int 0]))] ++ bTape G a1 a2) ++ bTold G a3 a4 a5 a6 a7 a8 a9 a10 a11 a12) ++ bTold G a13 a14 a15 a16 a17 a18 a19 a20 a21 a22) ++ bLaw G a23 a24 a25 a26) ++ bPage G a27) ++ bWork G a28 a29 a30 a31) ++ bDesk G a32 a3 a23 a33) ++ bPlan G a34 a32 a35 a36 a37 a38) ++ [(a39, .inr (4, [.null, .int 0, .null, .null, .int 0]))])) 39 3920 Q
  refine lw_dup (pc := 108) rfl (fm_dec dtX10_init 50 rfl) ?_
  refine lw_aloadn (pc := 109) (n := 0) 0 rfl rfl (fm_dec dtX10_init 51 rfl) ?_
  refine lw_get (pc := 110) (i := 0) (j := 6) (ci := 10) (w0 := w0) rfl fl_X10_52 rfl (fm_dec dtX10_init 52 rfl) ?_
  show lwEv l G 2 189 5251 qX10_init 113 [some (.ref q), none] [.ref a32, .ref a39, .ref a39, .ref q] (w0 ++ ((((((((([(q, .inr (10, [.ref a1, .ref a3, .ref a13, .ref a23, .ref a27, .ref a28, .ref a32, .ref a34, .null, .null, .null, .null, .null, .int 0, .int 0, .int 0, .int 0]))] ++ bTape G a1 a2) ++ bTold G a3 a4 a5 a6 a7 a8 a9 a10 a11 a12) ++ bTold G a13 a14 a15 a16 a17 a18 a19 a20 a21 a22) ++ bLaw G a23 a24 a25 a26) ++ bPage G a27) ++ bWork G a28 a29 a30 a31) ++ bDesk G a32 a3 a23 a33) ++ bPlan G a34 a32 a35 a36 a37 a38) ++ [(a39, .inr (4, [.null, .int 0, .null, .null, .int 0]))])) 39 3920 Q
  refine lw_init (y' := qX4_init) (d' := 1) (mc' := 3) (ms' := 23) (pc := 113) (As := [.ref a32]) (st := [.ref a39, .ref q]) ⟨fm_in 267 (by decide +kernel) rfl, ni_X4, nc_X4_init, nd_X4_init, by decide⟩ nm_X4_init rfl rfl rfl rfl (Nat.le_of_ble_eq_true rfl) (by decide) (by decide) (by decide) (fm_dec dtX10_init 53 rfl) ?_
  refine lwGood_assoc (w1 := w0) (w2 := (((((((([(q, .inr (10, [.ref a1, .ref a3, .ref a13, .ref a23, .ref a27, .ref a28, .ref a32, .ref a34, .null, .null, .null, .null, .null, .int 0, .int 0, .int 0, .int 0]))] ++ bTape G a1 a2) ++ bTold G a3 a4 a5 a6 a7 a8 a9 a10 a11 a12) ++ bTold G a13 a14 a15 a16 a17 a18 a19 a20 a21 a22) ++ bLaw G a23 a24 a25 a26) ++ bPage G a27) ++ bWork G a28 a29 a30 a31) ++ bDesk G a32 a3 a23 a33) ++ bPlan G a34 a32 a35 a36 a37 a38)) (w3 := [(a39, .inr (4, [.null, .int 0, .null, .null, .int 0]))]) ?_
  refine k_X4_init (fun a40 a41 a42 => ?_)
  refine lw_assoc ?_
  show lwEv l G 2 189 5251 qX10_init 116 [some (.ref q), none] [.ref a39, .ref q] (w0 ++ ((((((((([(q, .inr (10, [.ref a1, .ref a3, .ref a13, .ref a23, .ref a27, .ref a28, .ref a32, .ref a34, .null, .null, .null, .null, .null, .int 0, .int 0, .int 0, .int 0]))] ++ bTape G a1 a2) ++ bTold G a3 a4 a5 a6 a7 a8 a9 a10 a11 a12) ++ bTold G a13 a14 a15 a16 a17 a18 a19 a20 a21 a22) ++ bLaw G a23 a24 a25 a26) ++ bPage G a27) ++ bWork G a28 a29 a30 a31) ++ bDesk G a32 a3 a23 a33) ++ bPlan G a34 a32 a35 a36 a37 a38) ++ bSeeds G a39 a32 a40 a41 a42)) 42 3943 Q
  refine lw_put (pc := 116) (i := 0) (j := 8) (ci := 10) (w0 := w0) rfl fl_X10_68 (fun _ => ⟨rfl, fun r hr => by cases hr; rfl⟩) rfl rfl (fm_lt rfl) (fm_dec dtX10_init 54 rfl) ?_
  show lwEv l G 2 189 5251 qX10_init 119 [some (.ref q), none] [] (w0 ++ ((((((((([(q, .inr (10, [.ref a1, .ref a3, .ref a13, .ref a23, .ref a27, .ref a28, .ref a32, .ref a34, .ref a39, .null, .null, .null, .null, .int 0, .int 0, .int 0, .int 0]))] ++ bTape G a1 a2) ++ bTold G a3 a4 a5 a6 a7 a8 a9 a10 a11 a12) ++ bTold G a13 a14 a15 a16 a17 a18 a19 a20 a21 a22) ++ bLaw G a23 a24 a25 a26) ++ bPage G a27) ++ bWork G a28 a29 a30 a31) ++ bDesk G a32 a3 a23 a33) ++ bPlan G a34 a32 a35 a36 a37 a38) ++ bSeeds G a39 a32 a40 a41 a42)) 42 3943 Q
  refine lw_aloadn (pc := 119) (n := 0) 0 rfl rfl (fm_dec dtX10_init 55 rfl) ?_
  refine lw_new (pc := 120) (ci := 5) (N := 3) (fs := [.null, .null, .int 0]) fk_5 rfl (fm_in 338 (by decide +kernel) rfl) (fm_in 339 (by decide +kernel) rfl) ni_X5 df_5 (by decide) (by decide) (fm_dec dtX10_init 56 rfl) (fun a43 => ?_)
  refine lw_assoc ?_
  show lwEv l G 2 189 5251 qX10_init 123 [some (.ref q), none] [.ref a43, .ref q] (w0 ++ (((((((((([(q, .inr (10, [.ref a1, .ref a3, .ref a13, .ref a23, .ref a27, .ref a28, .ref a32, .ref a34, .ref a39, .null, .null, .null, .null, .int 0, .int 0, .int 0, .int 0]))] ++ bTape G a1 a2) ++ bTold G a3 a4 a5 a6 a7 a8 a9 a10 a11 a12) ++ bTold G a13 a14 a15 a16 a17 a18 a19 a20 a21 a22) ++ bLaw G a23 a24 a25 a26) ++ bPage G a27) ++ bWork G a28 a29 a30 a31) ++ bDesk G a32 a3 a23 a33) ++ bPlan G a34 a32 a35 a36 a37 a38) ++ bSeeds G a39 a32 a40 a41 a42) ++ [(a43, .inr (5, [.null, .null, .int 0]))])) 43 3946 Q
  refine lw_dup (pc := 123) rfl (fm_dec dtX10_init 57 rfl) ?_
  refine lw_init (y' := qX5_init) (d' := 1) (mc' := 35) (ms' := 271) (pc := 124) (As := []) (st := [.ref a43, .ref q]) ⟨fm_in 340 (by decide +kernel) rfl, ni_X5, nc_X5_init, nd_X5_init, by decide⟩ nm_X5_init rfl rfl rfl rfl (Nat.le_of_ble_eq_true rfl) (by decide) (by decide) (by decide) (fm_dec dtX10_init 58 rfl) ?_
  refine lwGood_assoc (w1 := w0) (w2 := ((((((((([(q, .inr (10, [.ref a1, .ref a3, .ref a13, .ref a23, .ref a27, .ref a28, .ref a32, .ref a34, .ref a39, .null, .null, .null, .null, .int 0, .int 0, .int 0, .int 0]))] ++ bTape G a1 a2) ++ bTold G a3 a4 a5 a6 a7 a8 a9 a10 a11 a12) ++ bTold G a13 a14 a15 a16 a17 a18 a19 a20 a21 a22) ++ bLaw G a23 a24 a25 a26) ++ bPage G a27) ++ bWork G a28 a29 a30 a31) ++ bDesk G a32 a3 a23 a33) ++ bPlan G a34 a32 a35 a36 a37 a38) ++ bSeeds G a39 a32 a40 a41 a42)) (w3 := [(a43, .inr (5, [.null, .null, .int 0]))]) ?_
  refine k_X5_init (fun a44 a45 a46 s44 hs44 => ?_)
  refine lw_assoc ?_
  show lwEv l G 2 189 5251 qX10_init 127 [some (.ref q), none] [.ref a43, .ref q] (w0 ++ (((((((((([(q, .inr (10, [.ref a1, .ref a3, .ref a13, .ref a23, .ref a27, .ref a28, .ref a32, .ref a34, .ref a39, .null, .null, .null, .null, .int 0, .int 0, .int 0, .int 0]))] ++ bTape G a1 a2) ++ bTold G a3 a4 a5 a6 a7 a8 a9 a10 a11 a12) ++ bTold G a13 a14 a15 a16 a17 a18 a19 a20 a21 a22) ++ bLaw G a23 a24 a25 a26) ++ bPage G a27) ++ bWork G a28 a29 a30 a31) ++ bDesk G a32 a3 a23 a33) ++ bPlan G a34 a32 a35 a36 a37 a38) ++ bSeeds G a39 a32 a40 a41 a42) ++ bShelf G a43 a44 a45 a46 s44)) 78 4217 Q
  refine lw_put (pc := 127) (i := 0) (j := 9) (ci := 10) (w0 := w0) rfl fl_X10_75 (fun _ => ⟨rfl, fun r hr => by cases hr; rfl⟩) rfl rfl (fm_lt rfl) (fm_dec dtX10_init 59 rfl) ?_
  show lwEv l G 2 189 5251 qX10_init 130 [some (.ref q), none] [] (w0 ++ (((((((((([(q, .inr (10, [.ref a1, .ref a3, .ref a13, .ref a23, .ref a27, .ref a28, .ref a32, .ref a34, .ref a39, .ref a43, .null, .null, .null, .int 0, .int 0, .int 0, .int 0]))] ++ bTape G a1 a2) ++ bTold G a3 a4 a5 a6 a7 a8 a9 a10 a11 a12) ++ bTold G a13 a14 a15 a16 a17 a18 a19 a20 a21 a22) ++ bLaw G a23 a24 a25 a26) ++ bPage G a27) ++ bWork G a28 a29 a30 a31) ++ bDesk G a32 a3 a23 a33) ++ bPlan G a34 a32 a35 a36 a37 a38) ++ bSeeds G a39 a32 a40 a41 a42) ++ bShelf G a43 a44 a45 a46 s44)) 78 4217 Q
  refine lw_aloadn (pc := 130) (n := 0) 0 rfl rfl (fm_dec dtX10_init 60 rfl) ?_
  refine lw_iconst (pc := 131) (v := 3) (by decide) (fm_dec dtX10_init 61 rfl) ?_
  refine lw_newq (pc := 132) (t := 3) (N := 3) (C := "LifeDrawer$Shelf") (fun _ => rfl) (fm_in 338 (by decide +kernel) rfl) (fun _ _ h => h.2.1) (by decide) (by decide) (by decide) (by decide) (by decide) (fm_dec dtX10_init 62 rfl) (fun a47 => ?_)
  refine lw_assoc ?_
  show lwEv l G 2 189 5251 qX10_init 135 [some (.ref q), none] [.ref a47, .ref q] (w0 ++ ((((((((((([(q, .inr (10, [.ref a1, .ref a3, .ref a13, .ref a23, .ref a27, .ref a28, .ref a32, .ref a34, .ref a39, .ref a43, .null, .null, .null, .int 0, .int 0, .int 0, .int 0]))] ++ bTape G a1 a2) ++ bTold G a3 a4 a5 a6 a7 a8 a9 a10 a11 a12) ++ bTold G a13 a14 a15 a16 a17 a18 a19 a20 a21 a22) ++ bLaw G a23 a24 a25 a26) ++ bPage G a27) ++ bWork G a28 a29 a30 a31) ++ bDesk G a32 a3 a23 a33) ++ bPlan G a34 a32 a35 a36 a37 a38) ++ bSeeds G a39 a32 a40 a41 a42) ++ bShelf G a43 a44 a45 a46 s44) ++ [(a47, .inl (G.2.2.1 3, 3, .inr (.inr (.inr (.inr (fun _ => none))))))])) 79 4220 Q
  refine lw_put (pc := 135) (i := 0) (j := 10) (ci := 10) (w0 := w0) rfl fl_X10_79 (fun _ => ⟨rfl, fun r hr => by cases hr; rfl⟩) rfl rfl (fm_lt rfl) (fm_dec dtX10_init 63 rfl) ?_
  show lwEv l G 2 189 5251 qX10_init 138 [some (.ref q), none] [] (w0 ++ ((((((((((([(q, .inr (10, [.ref a1, .ref a3, .ref a13, .ref a23, .ref a27, .ref a28, .ref a32, .ref a34, .ref a39, .ref a43, .ref a47, .null, .null, .int 0, .int 0, .int 0, .int 0]))] ++ bTape G a1 a2) ++ bTold G a3 a4 a5 a6 a7 a8 a9 a10 a11 a12) ++ bTold G a13 a14 a15 a16 a17 a18 a19 a20 a21 a22) ++ bLaw G a23 a24 a25 a26) ++ bPage G a27) ++ bWork G a28 a29 a30 a31) ++ bDesk G a32 a3 a23 a33) ++ bPlan G a34 a32 a35 a36 a37 a38) ++ bSeeds G a39 a32 a40 a41 a42) ++ bShelf G a43 a44 a45 a46 s44) ++ [(a47, .inl (G.2.2.1 3, 3, .inr (.inr (.inr (.inr (fun _ => none))))))])) 79 4220 Q
  refine lw_aloadn (pc := 138) (n := 0) 0 rfl rfl (fm_dec dtX10_init 64 rfl) ?_
  refine lw_bipush (pc := 139) (v := 8) (by decide) (fm_dec dtX10_init 65 rfl) ?_
  refine lw_newI (pc := 141) (N := 8) (by decide) (by decide) (by decide) (by decide) (by decide) (fm_dec dtX10_init 66 rfl) (fun a48 => ?_)
  refine lw_assoc ?_
  show lwEv l G 2 189 5251 qX10_init 143 [some (.ref q), none] [.ref a48, .ref q] (w0 ++ (((((((((((([(q, .inr (10, [.ref a1, .ref a3, .ref a13, .ref a23, .ref a27, .ref a28, .ref a32, .ref a34, .ref a39, .ref a43, .ref a47, .null, .null, .int 0, .int 0, .int 0, .int 0]))] ++ bTape G a1 a2) ++ bTold G a3 a4 a5 a6 a7 a8 a9 a10 a11 a12) ++ bTold G a13 a14 a15 a16 a17 a18 a19 a20 a21 a22) ++ bLaw G a23 a24 a25 a26) ++ bPage G a27) ++ bWork G a28 a29 a30 a31) ++ bDesk G a32 a3 a23 a33) ++ bPlan G a34 a32 a35 a36 a37 a38) ++ bSeeds G a39 a32 a40 a41 a42) ++ bShelf G a43 a44 a45 a46 s44) ++ [(a47, .inl (G.2.2.1 3, 3, .inr (.inr (.inr (.inr (fun _ => none))))))]) ++ [(a48, .inl (G.2.2.1 0, 8, .inl (fun _ => 0)))])) 80 4228 Q
  refine lw_put (pc := 143) (i := 0) (j := 11) (ci := 10) (w0 := w0) rfl fl_X10_83 (fun _ => ⟨rfl, fun r hr => by cases hr; rfl⟩) rfl rfl (fm_lt rfl) (fm_dec dtX10_init 67 rfl) ?_
  show lwEv l G 2 189 5251 qX10_init 146 [some (.ref q), none] [] (w0 ++ (((((((((((([(q, .inr (10, [.ref a1, .ref a3, .ref a13, .ref a23, .ref a27, .ref a28, .ref a32, .ref a34, .ref a39, .ref a43, .ref a47, .ref a48, .null, .int 0, .int 0, .int 0, .int 0]))] ++ bTape G a1 a2) ++ bTold G a3 a4 a5 a6 a7 a8 a9 a10 a11 a12) ++ bTold G a13 a14 a15 a16 a17 a18 a19 a20 a21 a22) ++ bLaw G a23 a24 a25 a26) ++ bPage G a27) ++ bWork G a28 a29 a30 a31) ++ bDesk G a32 a3 a23 a33) ++ bPlan G a34 a32 a35 a36 a37 a38) ++ bSeeds G a39 a32 a40 a41 a42) ++ bShelf G a43 a44 a45 a46 s44) ++ [(a47, .inl (G.2.2.1 3, 3, .inr (.inr (.inr (.inr (fun _ => none))))))]) ++ [(a48, .inl (G.2.2.1 0, 8, .inl (fun _ => 0)))])) 80 4228 Q
  refine lw_aloadn (pc := 146) (n := 0) 0 rfl rfl (fm_dec dtX10_init 68 rfl) ?_
  refine lw_sipush (pc := 147) (v := 201) (by decide) (fm_dec dtX10_init 69 rfl) ?_
  refine lw_newI (pc := 150) (N := 201) (by decide) (by decide) (by decide) (by decide) (by decide) (fm_dec dtX10_init 70 rfl) (fun a49 => ?_)
  refine lw_assoc ?_
  show lwEv l G 2 189 5251 qX10_init 152 [some (.ref q), none] [.ref a49, .ref q] (w0 ++ ((((((((((((([(q, .inr (10, [.ref a1, .ref a3, .ref a13, .ref a23, .ref a27, .ref a28, .ref a32, .ref a34, .ref a39, .ref a43, .ref a47, .ref a48, .null, .int 0, .int 0, .int 0, .int 0]))] ++ bTape G a1 a2) ++ bTold G a3 a4 a5 a6 a7 a8 a9 a10 a11 a12) ++ bTold G a13 a14 a15 a16 a17 a18 a19 a20 a21 a22) ++ bLaw G a23 a24 a25 a26) ++ bPage G a27) ++ bWork G a28 a29 a30 a31) ++ bDesk G a32 a3 a23 a33) ++ bPlan G a34 a32 a35 a36 a37 a38) ++ bSeeds G a39 a32 a40 a41 a42) ++ bShelf G a43 a44 a45 a46 s44) ++ [(a47, .inl (G.2.2.1 3, 3, .inr (.inr (.inr (.inr (fun _ => none))))))]) ++ [(a48, .inl (G.2.2.1 0, 8, .inl (fun _ => 0)))]) ++ [(a49, .inl (G.2.2.1 0, 201, .inl (fun _ => 0)))])) 81 4429 Q
  refine lw_put (pc := 152) (i := 0) (j := 12) (ci := 10) (w0 := w0) rfl fl_X10_87 (fun _ => ⟨rfl, fun r hr => by cases hr; rfl⟩) rfl rfl (fm_lt rfl) (fm_dec dtX10_init 71 rfl) ?_
  show lwEv l G 2 189 5251 qX10_init 155 [some (.ref q), none] [] (w0 ++ ((((((((((((([(q, .inr (10, [.ref a1, .ref a3, .ref a13, .ref a23, .ref a27, .ref a28, .ref a32, .ref a34, .ref a39, .ref a43, .ref a47, .ref a48, .ref a49, .int 0, .int 0, .int 0, .int 0]))] ++ bTape G a1 a2) ++ bTold G a3 a4 a5 a6 a7 a8 a9 a10 a11 a12) ++ bTold G a13 a14 a15 a16 a17 a18 a19 a20 a21 a22) ++ bLaw G a23 a24 a25 a26) ++ bPage G a27) ++ bWork G a28 a29 a30 a31) ++ bDesk G a32 a3 a23 a33) ++ bPlan G a34 a32 a35 a36 a37 a38) ++ bSeeds G a39 a32 a40 a41 a42) ++ bShelf G a43 a44 a45 a46 s44) ++ [(a47, .inl (G.2.2.1 3, 3, .inr (.inr (.inr (.inr (fun _ => none))))))]) ++ [(a48, .inl (G.2.2.1 0, 8, .inl (fun _ => 0)))]) ++ [(a49, .inl (G.2.2.1 0, 201, .inl (fun _ => 0)))])) 81 4429 Q
  refine lw_iconst (pc := 155) (v := 0) (by decide) (fm_dec dtX10_init 72 rfl) ?_
  refine lw_istoren (pc := 156) (n := 1) 1 rfl (by decide) rfl (fm_dec dtX10_init 73 rfl) ?_
  show lwEv l G 2 189 5251 qX10_init 157 [some (.ref q), some (.int 0)] [] (w0 ++ ((((((((((((([(q, .inr (10, [.ref a1, .ref a3, .ref a13, .ref a23, .ref a27, .ref a28, .ref a32, .ref a34, .ref a39, .ref a43, .ref a47, .ref a48, .ref a49, .int 0, .int 0, .int 0, .int 0]))] ++ bTape G a1 a2) ++ bTold G a3 a4 a5 a6 a7 a8 a9 a10 a11 a12) ++ bTold G a13 a14 a15 a16 a17 a18 a19 a20 a21 a22) ++ bLaw G a23 a24 a25 a26) ++ bPage G a27) ++ bWork G a28 a29 a30 a31) ++ bDesk G a32 a3 a23 a33) ++ bPlan G a34 a32 a35 a36 a37 a38) ++ bSeeds G a39 a32 a40 a41 a42) ++ bShelf G a43 a44 a45 a46 s44) ++ [(a47, .inl (G.2.2.1 3, 3, .inr (.inr (.inr (.inr (fun _ => none))))))]) ++ [(a48, .inl (G.2.2.1 0, 8, .inl (fun _ => 0)))]) ++ [(a49, .inl (G.2.2.1 0, 201, .inl (fun _ => 0)))])) 81 4429 Q
  refine lw_perm (ws' := (a47, .inl (G.2.2.1 3, 3, .inr (.inr (.inr (.inr (fun _ => none)))))) :: ((q, .inr (10, [.ref a1, .ref a3, .ref a13, .ref a23, .ref a27, .ref a28, .ref a32, .ref a34, .ref a39, .ref a43, .ref a47, .ref a48, .ref a49, .int 0, .int 0, .int 0, .int 0])) :: (w0 ++ (bTape G a1 a2 ++ (bTold G a3 a4 a5 a6 a7 a8 a9 a10 a11 a12 ++ (bTold G a13 a14 a15 a16 a17 a18 a19 a20 a21 a22 ++ (bLaw G a23 a24 a25 a26 ++ (bPage G a27 ++ (bWork G a28 a29 a30 a31 ++ (bDesk G a32 a3 a23 a33 ++ (bPlan G a34 a32 a35 a36 a37 a38 ++ (bSeeds G a39 a32 a40 a41 a42 ++ (bShelf G a43 a44 a45 a46 s44 ++ ([(a48, .inl (G.2.2.1 0, 8, .inl (fun _ => 0)))] ++ ([(a49, .inl (G.2.2.1 0, 201, .inl (fun _ => 0)))]))))))))))))))) (fm_sums _ _ (fun f => ?_)) ?_
  · simp only [List.map_append, List.map_cons, List.map_nil, List.sum_append, List.sum_cons, List.sum_nil]; omega
  refine k_X10_step (mc := 189) (ms := 5251) (cu := 81) (su := 4429) (q := q) (aI := a47) (k := 0) (i := 0) (i' := 1) (fs := [.ref a1, .ref a3, .ref a13, .ref a23, .ref a27, .ref a28, .ref a32, .ref a34, .ref a39, .ref a43, .ref a47, .ref a48, .ref a49, .int 0, .int 0, .int 0, .int 0]) (X := w0 ++ (bTape G a1 a2 ++ (bTold G a3 a4 a5 a6 a7 a8 a9 a10 a11 a12 ++ (bTold G a13 a14 a15 a16 a17 a18 a19 a20 a21 a22 ++ (bLaw G a23 a24 a25 a26 ++ (bPage G a27 ++ (bWork G a28 a29 a30 a31 ++ (bDesk G a32 a3 a23 a33 ++ (bPlan G a34 a32 a35 a36 a37 a38 ++ (bSeeds G a39 a32 a40 a41 a42 ++ (bShelf G a43 a44 a45 a46 s44 ++ ([(a48, .inl (G.2.2.1 0, 8, .inl (fun _ => 0)))] ++ ([(a49, .inl (G.2.2.1 0, 201, .inl (fun _ => 0)))]))))))))))))) rfl (by decide) (fm_inl (by decide)) (by decide) (by decide) (by decide) (by decide) (fun b0 p0 r0 t0 ss0 hs0 => ?_)
  refine k_X10_step (mc := 189) (ms := 5251) (cu := 117) (su := 4703) (q := q) (aI := a47) (k := 1) (i := 1) (i' := 2) (fs := [.ref a1, .ref a3, .ref a13, .ref a23, .ref a27, .ref a28, .ref a32, .ref a34, .ref a39, .ref a43, .ref a47, .ref a48, .ref a49, .int 0, .int 0, .int 0, .int 0]) (X := (w0 ++ (bTape G a1 a2 ++ (bTold G a3 a4 a5 a6 a7 a8 a9 a10 a11 a12 ++ (bTold G a13 a14 a15 a16 a17 a18 a19 a20 a21 a22 ++ (bLaw G a23 a24 a25 a26 ++ (bPage G a27 ++ (bWork G a28 a29 a30 a31 ++ (bDesk G a32 a3 a23 a33 ++ (bPlan G a34 a32 a35 a36 a37 a38 ++ (bSeeds G a39 a32 a40 a41 a42 ++ (bShelf G a43 a44 a45 a46 s44 ++ ([(a48, .inl (G.2.2.1 0, 8, .inl (fun _ => 0)))] ++ ([(a49, .inl (G.2.2.1 0, 201, .inl (fun _ => 0)))]))))))))))))) ++ bShelf G b0 p0 r0 t0 ss0) rfl (by decide) (fm_inl (by decide)) (by decide) (by decide) (by decide) (by decide) (fun b1 p1 r1 t1 ss1 hs1 => ?_)
  refine k_X10_step (mc := 189) (ms := 5251) (cu := 153) (su := 4977) (q := q) (aI := a47) (k := 2) (i := 2) (i' := 3) (fs := [.ref a1, .ref a3, .ref a13, .ref a23, .ref a27, .ref a28, .ref a32, .ref a34, .ref a39, .ref a43, .ref a47, .ref a48, .ref a49, .int 0, .int 0, .int 0, .int 0]) (X := ((w0 ++ (bTape G a1 a2 ++ (bTold G a3 a4 a5 a6 a7 a8 a9 a10 a11 a12 ++ (bTold G a13 a14 a15 a16 a17 a18 a19 a20 a21 a22 ++ (bLaw G a23 a24 a25 a26 ++ (bPage G a27 ++ (bWork G a28 a29 a30 a31 ++ (bDesk G a32 a3 a23 a33 ++ (bPlan G a34 a32 a35 a36 a37 a38 ++ (bSeeds G a39 a32 a40 a41 a42 ++ (bShelf G a43 a44 a45 a46 s44 ++ ([(a48, .inl (G.2.2.1 0, 8, .inl (fun _ => 0)))] ++ ([(a49, .inl (G.2.2.1 0, 201, .inl (fun _ => 0)))]))))))))))))) ++ bShelf G b0 p0 r0 t0 ss0) ++ bShelf G b1 p1 r1 t1 ss1) rfl (by decide) (fm_inl (by decide)) (by decide) (by decide) (by decide) (by decide) (fun b2 p2 r2 t2 ss2 hs2 => ?_)
  refine lw_iloadn (pc := 157) (n := 1) 1 rfl rfl (fm_dec dtX10_init 74 rfl) ?_
  refine lw_iconst (pc := 158) (v := 3) (by decide) (fm_dec dtX10_init 75 rfl) ?_
  refine lw_icmp_ge (pc := 159) 181 (by decide) (fm_dec dtX10_init 76 rfl) (fun _ => ?_) (fun hc => absurd (show (3 : Int32) ≤ 3 by decide) hc)
  obtain ⟨f, rfl⟩ := ss16 hs44
  obtain ⟨f0, rfl⟩ := ss16 hs0
  obtain ⟨f1, rfl⟩ := ss16 hs1
  obtain ⟨f2, rfl⟩ := ss16 hs2
  generalize hg : gX (gl [q, a1, a2, a3, a4, a5, a6, a7, a8, a9, a10, a11, a12, a13, a14, a15, a16, a17, a18, a19, a20, a21, a22, a23, a24, a25, a26, a27, a28, a29, a30, a31, a32, a33, a34, a35, a36, a37, a38, a39, a42, a40, a41, a47, a48, a49]) (gSh a43 a44 a45 a46 f) (gSh b0 p0 r0 t0 f0) (gSh b1 p1 r1 t1 f1) (gSh b2 p2 r2 t2 f2) = g
  refine lw_perm (ws' := w0 ++ fmL Tx (g, G.2) mX) ?_ ?_
  · rw [← hg, wx_all]
    refine fm_sums _ _ (fun f9 => ?_)
    simp only [b46, List.map_append, List.map_cons, List.map_nil, List.sum_append, List.sum_cons, List.sum_nil]
    show _ = _
    simp only [gl, List.getD_cons_zero, List.getD_cons_succ, gSh, if_true]
    omega
  have g0 : g 0 = q := by rw [← hg]; rfl
  rw [← g0]
  refine lw_aloadn (pc := 181) (n := 0) 0 rfl rfl (fm_dec dtX10_init 86 rfl) ?_
  refine lw_getF (pc := 182) (k := 0) (j := 9) (ci := 10) 46 rfl fl_X10_75 (by decide) rfl (by decide) (by decide) (fm_dec dtX10_init 87 rfl) ?_
  refine lw_getF (pc := 185) (k := 46) (j := 0) (ci := 5) 47 rfl fl_X10_90 (by decide) rfl (by decide) (by decide) (fm_dec dtX10_init 88 rfl) ?_
  refine lw_aloadn (pc := 188) (n := 0) 0 rfl rfl (fm_dec dtX10_init 89 rfl) ?_
  refine lw_getF (pc := 189) (k := 0) (j := 1) (ci := 10) 3 rfl fl_X10_19 (by decide) rfl (by decide) (by decide) (fm_dec dtX10_init 90 rfl) ?_
  refine lw_callF (T := Tx) (g := g) (M := mX) (w0 := w0) (k := 47) (ci := 6) (d' := 0) (pc := 192) (As := [.ref (g 3)]) (st := []) cv_X10_94 (by decide) rfl rfl rfl (by decide) (by decide) (by decide) (by decide) (fm_dec dtX10_init 91 rfl) ?_
  refine c_begin2 hst (fun M' e0 e1 e2 e3 e4 e5 e6 => ⟨rfl, ?_⟩)
  exact lw_return (pc := 195) rfl (by decide) (by decide) (fm_dec dtX10_init 92 rfl) (hq g M' g0 ⟨e0, e1, e2, (e3.trans rfl), e4, e5, e6⟩)
