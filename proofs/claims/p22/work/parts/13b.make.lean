-- MAKING, part two: references into arrays, arrays of arrays, calls of the flat machine's methods
theorem va_P.swp {D : va_G} {cl : List vw_C} {w1 w2 : va_W} {H : Heap} (h : va_P D cl (w1 ++ w2) H) : va_P D cl (w2 ++ w1) H := by
  refine va_P.app (fun k q hk => h (w1.length + k) q ?_) (fun k q hk => h k q ?_)
  · rw [List.getElem?_append_right (by omega), Nat.add_sub_cancel_left]; exact hk
  · rw [List.getElem?_append_left (List.getElem?_eq_some_iff.mp hk).1]; exact hk
theorem va_D.swp {A : Nat → Prop} {w1 w2 : va_W} (h : va_D A (w1 ++ w2)) : va_D A (w2 ++ w1) := by
  have g1 : ∀ (k : Nat) (q : Nat × va_E), w1[k]? = some q → (w1 ++ w2)[k]? = some q := fun k q hk => by
    rw [List.getElem?_append_left (List.getElem?_eq_some_iff.mp hk).1]; exact hk
  have g2 : ∀ (k : Nat) (q : Nat × va_E), w2[k]? = some q → (w1 ++ w2)[w1.length + k]? = some q := fun k q hk => by
    rw [List.getElem?_append_right (by omega), Nat.add_sub_cancel_left]; exact hk
  refine va_D.app ⟨fun i j p q hi hj e => ?_, fun k q hk => h.2 _ q (g2 k q hk)⟩ ⟨fun i j p q hi hj e => ?_, fun k q hk => h.2 _ q (g1 k q hk)⟩ (fun i j p q hi hj e => ?_)
  · have := h.1 _ _ p q (g2 i p hi) (g2 j q hj) e
    omega
  · exact h.1 _ _ p q (g1 i p hi) (g1 j q hj) e
  · have := h.1 _ _ p q (g2 i p hi) (g1 j q hj) e
    have := (List.getElem?_eq_some_iff.mp hj).1
    omega
theorem lw_ai : Cond.arrayClass .int ∈ fmWs := fm_in 143 (by decide +kernel) rfl
theorem lw_al : Cond.arrayClass .long ∈ fmWs := fm_in 236 (by decide +kernel) rfl
theorem lw_ab : Cond.arrayClass .byte ∈ fmWs := fm_in 64 (by decide +kernel) rfl
section LwRows2
variable {l : Launch} {G : fmG} {d mc ms : Nat} {y : fmY} {pc : Nat} {L : List (Option Value)} {st : List Value} {ws : va_W} {cu su : Nat} {Q : va_W → Prop}
theorem lw_astq {q0 t qk ci n v a : Nat} {r : vw_C} {vs : List Value} {f : Nat → Option Nat} {i : Int32} (ha : ws[q0]? = some (a, .inl (G.2.2.1 t, n, .inr (.inr (.inr (.inr f)))))) (ht : ∀ g : fmG, (fmTys g)[t]? = some (g.2.2.1 t, .object r.1)) (hv : ws[qk]? = some (v, .inr (ci, vs))) (hc : vwCl[ci]? = some r) (hin : vp_in i n) (hdg : decode y.2.1 pc = .ok (.aastore, 1))
    (kk : lwEv l G d mc ms y (pc + 1) L st (ws.set q0 (a, .inl (G.2.2.1 t, n, .inr (.inr (.inr (.inr (va_up f i.toNatClampNeg (some v)))))))) cu su Q) : lwEv l G d mc ms y pc L (.ref v :: .int i :: .ref a :: st) ws cu su Q := by
  intro p e s m args below meth c H locs A ls hF hE hA hP hS hL
  refine va_astq hF.1 hF.2.1 hE.1.1 hP.1 hP.2 hS q0 t qk ci ha (ht G) hv hc hin hdg (fun H1 locs1 hP1 hD1 hS1 => ?_)
  exact kk p e s m args below meth c H1 locs1 A ls hF hE hA ⟨hP1, hD1⟩ hS1 hL
theorem lw_mna {idx N K : Nat} {n k : Int32} (hk : Cond.classLink y.1.cls idx "[[I" ∈ fmWs) (hn : ¬ n < 0) (hk0 : ¬ k < 0) (hN : n.toNatClampNeg = N) (hK : k.toNatClampNeg = K) (hb1 : N * 4 ≤ 536870912) (hb2 : K * 4 ≤ 536870912) (hc : cu + (1 + N) ≤ mc) (hs : su + (N + N * K) ≤ ms) (hdg : decode y.2.1 pc = .ok (.multianewarray idx 2, 4))
    (kk : ∀ (q : Nat) (r : Nat → Nat), lwEv l G d mc ms y (pc + 4) L (.ref q :: st) (ws ++ ((q, .inl (G.2.2.1 5, N, .inr (.inr (.inr (.inr (fun i => if i < N then some (r i) else none)))))) :: (List.range N).map (fun i => (r i, .inl (G.2.2.1 0, K, .inl (fun _ => 0)))))) (cu + 1 + N) (su + N + N * K) Q) : lwEv l G d mc ms y pc L (.int k :: .int n :: st) ws cu su Q := by
  intro p e s m args below meth c H locs A ls hF hE hA hP hS hL
  have hts := hF.2.2.2.2.2.1
  have ok : ∀ w ∈ fmWs, w.before args s = true := fun w h => hts w (List.mem_cons_of_mem _ h)
  have hcy : s.vm.findClass (FieldType.array .int).toString = some (G.2.2.1 0) := (hE.1.1.2 0 _ rfl).2
  have hP0 : va_P G.2.1 vwCl (ws ++ va_pl [] (fun _ => .inl (G.2.2.1 0, 0, .inl (fun _ => 0)))) H := by
    rw [show va_pl [] (fun _ => (.inl (G.2.2.1 0, 0, .inl (fun _ => 0)) : va_E)) = [] from rfl, List.append_nil]; exact hP.1
  have hD0 : va_D A (ws ++ va_pl [] (fun _ => .inl (G.2.2.1 0, 0, .inl (fun _ => 0)))) := by
    rw [show va_pl [] (fun _ => (.inl (G.2.2.1 0, 0, .inl (fun _ => 0)) : va_E)) = [] from rfl, List.append_nil]; exact hP.2
  refine va_mna (ty := .int) (cy := G.2.2.1 0) (z := (K, .inl (fun _ => 0))) hF.1 hF.2.1 hF.2.2.2.2.1 (ok _ hk) hE.2.2.2 (ok _ lw_ai) hcy hE.1.1 hP0 hD0 hS hA hn hk0 hN hK hb1 hb2 (by omega) rfl rfl hc hs (fun c9 => by rw [vp_cell_i, ← arrV_new]; rfl) hdg (fun q r cA H1 hr hr2 hK1 hP1 hD1 hS1 => ?_)
  have e1 : s.vm.findClass ("[" ++ (FieldType.array .int).toString) = some cA := (hK1.2 6 (cA, .array .int) rfl).2
  have e2 : s.vm.findClass ("[" ++ (FieldType.array .int).toString) = some (G.2.2.1 5) := (hE.1.1.2 5 _ rfl).2
  have e3 : cA = G.2.2.1 5 := Option.some.inj (e1.symm.trans e2)
  subst e3
  have ew : ∀ (f : Nat → va_E) (x : va_E), va_pl ([] ++ (List.range N).map r) (vr_up f ((List.range N).map r) x) = (List.range N).map (fun i => (r i, x)) := by
    intro f x
    unfold va_pl
    rw [List.nil_append, List.map_map]
    apply List.map_congr_left
    intro i hi
    show (r i, vr_up f ((List.range N).map r) x (r i)) = (r i, x)
    rw [vr_up_in (List.mem_map.mpr ⟨i, hi, rfl⟩)]
  rw [ew, List.append_assoc] at hP1 hD1
  exact kk q r p e s m args below meth c H1 locs A ls hF hE hA ⟨hP1, hD1⟩ hS1 hL
theorem lw_callF {T : fmT} {g : Nat → Nat} {M : fmM} {w0 : va_W} {k ci d' idx n : Nat} {y' : fmY} {As st0 : List Value} (hc : fmCv y.1.cls idx y' n ci) (hk : k < T.1) (hkd : T.2.1 k = ci + 6) (hn : As.length = n) (hst0 : st0 = As.reverse ++ .ref (g k) :: st) (hcat : (st.map fun v => v.category).sum ≤ 8) (hd : d' + 1 ≤ d) (hcu : cu ≤ mc) (hsu : su ≤ ms) (hdg : decode y.2.1 pc = .ok (.invokevirtual idx, 3))
    (hg : fmGood T l (g, G.2) d' y' (.ref (g k) :: As) M (fun o M' => o = .inl none ∧ lwEv l G d mc ms y (pc + 3) L st (w0 ++ fmL T (g, G.2) M') cu su Q)) : lwEv l G d mc ms y pc L st0 (w0 ++ fmL T (g, G.2) M) cu su Q := by
  subst hst0
  obtain ⟨o, M', ⟨rfl, kk⟩, hM⟩ := hg
  intro p e s m args below meth c H locs A ls hF hE hA hP hS hL
  have hts := hF.2.2.2.2.2.1
  have ok : ∀ w ∈ fmWs, w.before args s = true := fun w h => hts w (List.mem_cons_of_mem _ h)
  obtain ⟨hcb, hci, hcs, r, hr1, hr2⟩ := hc
  have hEg : fmEnv (g, G.2) A s := hE.1
  have hP2 : fmPic T (g, G.2) A M w0 H := ⟨hP.1.swp, hP.2.swp⟩
  have hrecv := va_recv (s := s) hEg.1 hP2.1 hr1 (fmL_obj hk hkd)
  have hB : CallB (lwRm d mc ms) s args y.1.cls idx y'.1 y'.2.1 y'.2.2.1 y'.2.2.2 (fmWy y') (fmRm d' (.inl none)) (fmMc (.inl none)) (fmMs (.inl none)) n := by
    refine callB_of (Ts := fmWy y) n hts ?_ rfl rfl rfl (ok _ hcb.2.1) (ok _ hcb.1) hcb.2.2.2.1 ⟨?_, ?_⟩
    · intro w hw
      rcases List.mem_cons.mp hw with e | h
      · rw [e]; exact ⟨List.mem_cons_of_mem _ hcb.2.2.1, good_of_word (fmWs_good hcb.2.2.1)⟩
      · exact ⟨List.mem_cons_of_mem _ h, good_of_word (fmWs_good h)⟩
    · show d' + 10 + 1 ≤ d + 10; omega
    · have := hcb.2.2.2.2
      show 8 + (y'.2.2.1 + 11) + (60 * d' + 200) ≤ 60 * d + 200; omega
  have hr : vx_Run p l e (lwRm d mc ms) s m args below meth c H locs cu su (fmMc (.inl none)) (fmMs (.inl none)) (F0 m pc ls (As.reverse ++ .ref (g k) :: st)) st (fmQc T (g, G.2) A M' w0 (.inl none) (Value.ref (g k) :: As).toArray) (fmXC T (g, G.2) A M' w0 (.inl none)) A :=
    vx_runV (C := y'.1.cls) (As := As) (rest := st) ⟨hF.1, hF.2.1, hF.2.2.1, hF.2.2.2.2.1, hts⟩ (hM A w0) ⟨hB, ok _ hci, ok _ hcs⟩ ⟨fmPc.blind, by rw [← hr2]; exact hrecv, fun U hU hW => fm_pre hEg hA hP2 hS hU hW⟩ rfl hn hL.1 rfl (lv_room hcat) hdg ⟨by show cu + 0 ≤ mc; omega, by show su + 0 ≤ ms; omega⟩
  intro Tm hT X
  rcases hr Tm hT X with ⟨v', st₀, t, T', L', h0, X', hL', e1, e2, ⟨⟨v2, hv1, hv2⟩, hP', hF'⟩, stp⟩ | ⟨q, st₀, t, T', L', E, ce, h0, X', hL', e1, e2, ⟨hx, -⟩, -⟩
  · cases hv1
    cases hv2
    obtain ⟨k1, k2, k3⟩ := vx_keep h0 e1 hS (fun _ _ h => h) (fun _ h => h) hL' hF'
    obtain ⟨t2, a1, b1⟩ := kk p e s m args below meth c T'.heap (locs ++ L') A ls hF hE hA (by rw [e1]; exact ⟨hP'.1.swp, hP'.2.swp⟩) k3 hL T' rfl X'
    exact ⟨t2, stp t2 a1, b1⟩
  · cases hx
end LwRows2
