-- MAKING, part three: a world in any order; arrays of ints, longs, bytes
theorem fm_sums {α : Type} (a b : List α) (h : ∀ f : α → Nat, (a.map f).sum = (b.map f).sum) : a.Perm b := by
  have dec : DecidableEq α := fun x y => Classical.propDecidable (x = y)
  rw [List.perm_iff_count]
  intro x
  have hc : ∀ l : List α, l.count x = (l.map (fun y => if y = x then 1 else 0)).sum := by
    intro l
    induction l with
    | nil => rfl
    | cons y l ih =>
      rw [List.count_cons, ih, List.map_cons, List.sum_cons]
      by_cases e : y = x
      · simp [e]; omega
      · simp [e]
  rw [hc, hc]
  exact h _
theorem fm_inter {α β : Type} (u v : α → β) (ss : List α) : (ss.flatMap (fun x => [u x, v x])).Perm (ss.map u ++ ss.map v) := by
  apply fm_sums
  intro f
  induction ss with
  | nil => rfl
  | cons x ss ih =>
    simp only [List.flatMap_cons, List.map_append, List.map_cons, List.map_nil, List.sum_append, List.sum_cons, List.sum_nil] at ih ⊢
    omega
theorem va_P.perm {D : va_G} {cl : List vw_C} {w1 w2 : va_W} {H : Heap} (h : va_P D cl w1 H) (hp : w1.Perm w2) : va_P D cl w2 H := by
  intro k q hk
  have h1 : q ∈ w1 := hp.mem_iff.mpr (List.mem_of_getElem? hk)
  obtain ⟨i, hi⟩ := List.mem_iff_getElem?.mp h1
  exact h i q hi
theorem va_D.pw {A : Nat → Prop} {ws : va_W} : va_D A ws ↔ ws.Pairwise (fun p q => p.1 ≠ q.1) ∧ ∀ q ∈ ws, A q.1 := by
  constructor
  · intro h
    refine ⟨List.pairwise_iff_getElem.mpr (fun i j hi hj hij e => ?_), fun q hq => ?_⟩
    · have := h.1 i j ws[i] ws[j] (List.getElem?_eq_getElem hi) (List.getElem?_eq_getElem hj) e
      omega
    · obtain ⟨i, hi⟩ := List.mem_iff_getElem?.mp hq
      exact h.2 i q hi
  · intro h
    refine ⟨fun i j p q hi hj e => ?_, fun k q hk => h.2 q (List.mem_of_getElem? hk)⟩
    obtain ⟨li, ei⟩ := List.getElem?_eq_some_iff.mp hi
    obtain ⟨lj, ej⟩ := List.getElem?_eq_some_iff.mp hj
    have h1 := List.pairwise_iff_getElem.mp h.1
    rcases Nat.lt_trichotomy i j with c | c | c
    · exact absurd (by rw [ei, ej]; exact e) (h1 i j li lj c)
    · exact c
    · exact absurd (by rw [ei, ej]; exact e.symm) (h1 j i lj li c)
theorem va_D.perm {A : Nat → Prop} {w1 w2 : va_W} (h : va_D A w1) (hp : w1.Perm w2) : va_D A w2 := by
  rw [va_D.pw] at h ⊢
  exact ⟨(hp.pairwise_iff (fun h e => h e.symm)).mp h.1, fun q hq => h.2 q (hp.mem_iff.mpr hq)⟩
section LwRows3
variable {l : Launch} {G : fmG} {d mc ms : Nat} {y : fmY} {pc : Nat} {L : List (Option Value)} {st : List Value} {ws : va_W} {cu su : Nat} {Q : va_W → Prop}
theorem lw_perm {ws' : va_W} (h : ws.Perm ws') (k : lwEv l G d mc ms y pc L st ws' cu su Q) : lwEv l G d mc ms y pc L st ws cu su Q := by
  intro p e s m args below meth c H locs A ls hF hE hA hP hS hL
  exact k p e s m args below meth c H locs A ls hF hE hA ⟨hP.1.perm h, hP.2.perm h⟩ hS hL
theorem lw_assoc {w1 w2 w3 : va_W} (k : lwEv l G d mc ms y pc L st (w1 ++ (w2 ++ w3)) cu su Q) : lwEv l G d mc ms y pc L st ((w1 ++ w2) ++ w3) cu su Q := by rw [List.append_assoc]; exact k
theorem lw_newI {N : Nat} {n : Int32} (hn : ¬ n < 0) (hN : n.toNatClampNeg = N) (hb : N * 4 ≤ 536870912) (hc : cu + 1 ≤ mc) (hs : su + N ≤ ms) (hdg : decode y.2.1 pc = .ok (.newarray .int, 2))
    (kk : ∀ q : Nat, lwEv l G d mc ms y (pc + 2) L (.ref q :: st) (ws ++ [(q, .inl (G.2.2.1 0, N, .inl (fun _ => 0)))]) (cu + 1) (su + N) Q) : lwEv l G d mc ms y pc L (.int n :: st) ws cu su Q :=
  lw_newa (atype := .int) (t := 0) (ty := .int) (a0 := (N, .inl (fun _ => 0))) rfl (fun _ => rfl) (fun _ _ h => h) lw_ai (fun cA => by rw [vp_cell_i]; rfl) hn hN hb hc hs hdg kk
theorem lw_newJ {N : Nat} {n : Int32} (hn : ¬ n < 0) (hN : n.toNatClampNeg = N) (hb : N * 8 ≤ 536870912) (hc : cu + 1 ≤ mc) (hs : su + N ≤ ms) (hdg : decode y.2.1 pc = .ok (.newarray .long, 2))
    (kk : ∀ q : Nat, lwEv l G d mc ms y (pc + 2) L (.ref q :: st) (ws ++ [(q, .inl (G.2.2.1 1, N, .inr (.inl (fun _ => 0))))]) (cu + 1) (su + N) Q) : lwEv l G d mc ms y pc L (.int n :: st) ws cu su Q :=
  lw_newa (atype := .long) (t := 1) (ty := .long) (a0 := (N, .inr (.inl (fun _ => 0)))) rfl (fun _ => rfl) (fun _ _ h => h) lw_al (fun cA => by rw [vp_cell_l]; rfl) hn hN hb hc hs hdg kk
theorem lw_newB {N : Nat} {n : Int32} (hn : ¬ n < 0) (hN : n.toNatClampNeg = N) (hb : N * 1 ≤ 536870912) (hc : cu + 1 ≤ mc) (hs : su + N ≤ ms) (hdg : decode y.2.1 pc = .ok (.newarray .byte, 2))
    (kk : ∀ q : Nat, lwEv l G d mc ms y (pc + 2) L (.ref q :: st) (ws ++ [(q, .inl (G.2.2.1 2, N, .inl (fun _ => 0)))]) (cu + 1) (su + N) Q) : lwEv l G d mc ms y pc L (.int n :: st) ws cu su Q :=
  lw_newa (atype := .byte) (t := 2) (ty := .byte) (a0 := (N, .inl (fun _ => 0))) rfl (fun _ => rfl) (fun _ _ h => h) lw_ab (fun cA => by rw [vp_cell_i]; rfl) hn hN hb hc hs hdg kk
/-- a reference written into the array that stands first; the object is anywhere -/
theorem lw_astm {t ci n v a : Nat} {r : vw_C} {vs : List Value} {f : Nat → Option Nat} {i : Int32} {w1 : va_W} (ht : ∀ g : fmG, (fmTys g)[t]? = some (g.2.2.1 t, .object r.1)) (hv : (v, .inr (ci, vs)) ∈ w1) (hc : vwCl[ci]? = some r) (hin : vp_in i n) (hdg : decode y.2.1 pc = .ok (.aastore, 1))
    (kk : lwEv l G d mc ms y (pc + 1) L st ((a, .inl (G.2.2.1 t, n, .inr (.inr (.inr (.inr (va_up f i.toNatClampNeg (some v))))))) :: w1) cu su Q) : lwEv l G d mc ms y pc L (.ref v :: .int i :: .ref a :: st) ((a, .inl (G.2.2.1 t, n, .inr (.inr (.inr (.inr f))))) :: w1) cu su Q := by
  obtain ⟨k, hk⟩ := List.mem_iff_getElem?.mp hv
  exact lw_astq (q0 := 0) (qk := k + 1) (t := t) (r := r) rfl ht hk hc hin hdg kk
end LwRows3
