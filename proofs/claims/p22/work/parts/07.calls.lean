-- CALLS OF THE FLAT MACHINE'S METHODS
theorem fmWs_good {w : Cond} (h : w ∈ fmWs) : goodWord w = true := (List.mem_filter.mp h).2
theorem fm_callB {own : String} {idx n d d' : Nat} {y' y : fmY} {o o' : fmR} {s : State} {args : Array Value} (hd : d' + 1 ≤ d) (hc : fmCb own idx y' n) (hts : ∀ w ∈ fmWy y, w.before args s = true) : CallB (fmRm d o) s args own idx y'.1 y'.2.1 y'.2.2.1 y'.2.2.2 (fmWy y') (fmRm d' o') (fmMc o') (fmMs o') n := by
  have ok : ∀ w ∈ fmWs, w.before args s = true := fun w h => hts w (List.mem_cons_of_mem _ h)
  refine callB_of (Ts := fmWy y) n hts ?_ rfl rfl rfl (ok _ hc.2.1) (ok _ hc.1) hc.2.2.2.1 ⟨?_, ?_⟩
  · intro w hw
    rcases List.mem_cons.mp hw with e | h
    · rw [e]; exact ⟨List.mem_cons_of_mem _ hc.2.2.1, good_of_word (fmWs_good hc.2.2.1)⟩
    · exact ⟨List.mem_cons_of_mem _ h, good_of_word (fmWs_good h)⟩
  · show d' + 10 + 1 ≤ d + 10; omega
  · have := hc.2.2.2.2
    show 8 + (y'.2.2.1 + 11) + (60 * d' + 200) ≤ 60 * d + 200; omega
section FmCalls
variable {T : fmT} {l : Launch} {G : fmG} {d d' : Nat} {y y' : fmY} {pc idx n : Nat} {L : List (Option Value)} {st As : List Value} {M : fmM} {Q : fmR → fmM → Prop}
/-- what a call's end means to its caller -/
def fmThen (T : fmT) (l : Launch) (G : fmG) (d : Nat) (y : fmY) (pc : Nat) (L : List (Option Value)) (st : List Value) (Q : fmR → fmM → Prop) : fmR → fmM → Prop := fun o M' => match o with
  | .inl v => fmEv T l G d y pc L (v.toList ++ st) M' Q
  | .inr E => Q (.inr E) M'
theorem fm_after {st0 args' : List Value} (run : ∀ (o : fmR) (M1 : fmM) (o2 : fmR), (∀ (A : Nat → Prop) (rest : va_W), vx_Met l y'.1 (fmWy y') (fmRm d' o) (fmPc T G args' M A rest) (fmQc T G A M1 rest o) (fmXC T G A M1 rest o) (fmMc o) (fmMs o) A) → (∀ E, o = .inr E → o2 = .inr E) →
      ∀ (p : Program) (e : Env) (s : State) (m : MethodId) (args : Array Value) (below : List Frame) (meth : Method) (c : Code) (H : Heap) (locs : List Loc) (A : Nat → Prop) (rest : va_W) (ls : Array Slot), l.stackTraces = false → fmFix p s m args meth c y → fmEnv G A s → (∀ q : Nat, s.heap.size ≤ q → A q) → fmPic T G A M rest H → va_S A s.heap H locs → fmHas ls y.2.2.1 L →
      vx_Run p l e (fmRm d o2) s m args below meth c H locs 0 0 (fmMc o) (fmMs o) (F0 m pc ls st0) st (fmQc T G A M1 rest o args'.toArray) (fmXC T G A M1 rest o) A)
    (hg : fmGood T l G d' y' args' M (fmThen T l G d y (pc + 3) L st Q)) : fmEv T l G d y pc L st0 M Q := by
  obtain ⟨o, M1, hq, hM⟩ := hg
  cases o with
  | inl v =>
    obtain ⟨o2, M2, hq2, k⟩ := hq
    refine ⟨o2, M2, hq2, ?_⟩
    intro p e s m args below meth c H locs A rest ls hst hF hE hA hP hS hL
    have hr := run (.inl v) M1 o2 hM (fun E h => by cases h) p e s m args below meth c H locs A rest ls hst hF hE hA hP hS hL
    intro Tm hT X
    rcases hr Tm hT X with ⟨v', st₀, t, T', L', h0, X', hL', e1, e2, ⟨⟨v2, hv1, hv2⟩, hP', hF'⟩, stp⟩ | ⟨q, st₀, t, T', L', E, ce, h0, X', hL', e1, e2, ⟨hx, -⟩, -⟩
    · cases hv1
      cases hv2
      obtain ⟨k1, k2, k3⟩ := vx_keep h0 e1 hS (fun _ _ h => h) (fun _ h => h) hL' hF'
      obtain ⟨t2, a1, b1⟩ := k p e s m args below meth c T'.heap (locs ++ L') A rest ls hst hF hE hA (by rw [e1]; exact hP') k3 hL T' rfl X'
      exact ⟨t2, stp t2 a1, b1⟩
    · cases hx
  | inr E0 =>
    refine ⟨.inr E0, M1, hq, ?_⟩
    intro p e s m args below meth c H locs A rest ls hst hF hE hA hP hS hL
    have hr := run (.inr E0) M1 (.inr E0) hM (fun E h => h) p e s m args below meth c H locs A rest ls hst hF hE hA hP hS hL
    intro Tm hT X
    rcases hr Tm hT X with ⟨v', st₀, t, T', L', h0, X', hL', e1, e2, ⟨⟨v2, hv1, hv2⟩, hP', hF'⟩, stp⟩ | ⟨q, st₀, t, T', L', E, ce, h0, X', hL', e1, e2, ⟨hx, hP', hF'⟩, hce, hcv, hcl, stp⟩
    · cases hv1
    · cases hx
      obtain ⟨k1, k2, k3⟩ := vx_keep h0 e1 hS (fun _ _ h => h) (fun _ h => h) hL' hF'
      have K : vx_W p l e (fmRm d (.inr E0)) s m args below meth c T'.heap (locs ++ L') (0 + fmMc (.inr E0)) (0 + fmMs (.inr E0)) (vx_MQ below (fmQc T G A M1 rest (.inr E0)) (fmXC T G A M1 rest (.inr E0)) args s (fmMc (.inr E0)) (fmMs (.inr E0)) A) (F0 m pc ls st) q :=
        vx_out (fun x hx => (hF.2.2.2.2.2.2.2 x hx).elim) hF.2.2.2.2.2.2.1 (by rw [e1]; exact hce) hcv hcl (fun t9 ht9 _ => ⟨rfl, by rw [ht9, e1]; exact hP', by have := k3.F ht9; exact this⟩) k3.2.2 (by simp [fmMc]) (by simp [fmMs])
      obtain ⟨t2, a1, b1⟩ := K T' rfl X'
      exact ⟨t2, stp.trans a1, b1⟩
theorem fm_pre {s U : State} {H : Heap} {locs : List Loc} {A : Nat → Prop} {rest : va_W} {As : List Value} (hE : fmEnv G A s) (hA : ∀ q : Nat, s.heap.size ≤ q → A q) (hP : fmPic T G A M rest H) (hS : va_S A s.heap H locs) (hU : U.heap = H) (hW : s.WarmedH U.vm) : fmPc T G As M A rest As.toArray U :=
  ⟨rfl, hE.warm hS hU hW, fun q h => hA q (Nat.le_trans hS.1 (by rw [← hU]; exact h)), by rw [hU]; exact hP⟩
theorem fm_invV {k ci : Nat} {args' : List Value} (hc : fmCv y.1.cls idx y' n ci) (hk : k < T.1) (hkd : T.2.1 k = ci + 6) (hn : As.length = n) (hargs : args' = .ref (G.1 k) :: As) {st0 : List Value} (hst0 : st0 = As.reverse ++ .ref (G.1 k) :: st) (hcat : (st.map fun v => v.category).sum ≤ 8) (hd : d' + 1 ≤ d) (hdg : decode y.2.1 pc = .ok (.invokevirtual idx, 3)) (hg : fmGood T l G d' y' args' M (fmThen T l G d y (pc + 3) L st Q)) : fmEv T l G d y pc L st0 M Q := by
  subst hst0
  subst hargs
  refine fm_after ?_ hg
  intro o M1 o2 hM hcost p e s m args below meth c H locs A rest ls hst hF hE hA hP hS hL
  have hts := hF.2.2.2.2.2.1
  have ok : ∀ w ∈ fmWs, w.before args s = true := fun w h => hts w (List.mem_cons_of_mem _ h)
  obtain ⟨hcb, hci, hcs, r, hr1, hr2⟩ := hc
  have hrecv := va_recv (s := s) hE.1 hP.1 hr1 (fmL_obj hk hkd)
  refine vx_runV (C := y'.1.cls) (As := As) (rest := st) ⟨hF.1, hF.2.1, hF.2.2.1, hF.2.2.2.2.1, hts⟩ (hM A rest) ⟨fm_callB hd hcb hts, ok _ hci, ok _ hcs⟩ ⟨fmPc.blind, by rw [← hr2]; exact hrecv, fun U hU hW => fm_pre hE hA hP hS hU hW⟩ rfl hn hL.1 rfl (lv_room hcat) hdg ⟨?_, ?_⟩
  · cases o with
    | inl v => exact Nat.zero_le _
    | inr E => rw [hcost E rfl]; simp [fmRm, fmMc]
  · cases o with
    | inl v => exact Nat.zero_le _
    | inr E => rw [hcost E rfl]; simp [fmRm, fmMs]
theorem fm_invS {args' : List Value} (hc : fmCs y.1.cls idx y' n) (hn : args'.length = n) {st0 : List Value} (hst0 : st0 = args'.reverse ++ st) (hcat : (st.map fun v => v.category).sum ≤ 8) (hd : d' + 1 ≤ d) (hdg : decode y.2.1 pc = .ok (.invokestatic idx, 3)) (hg : fmGood T l G d' y' args' M (fmThen T l G d y (pc + 3) L st Q)) : fmEv T l G d y pc L st0 M Q := by
  subst hst0
  refine fm_after ?_ hg
  intro o M1 o2 hM hcost p e s m args below meth c H locs A rest ls hst hF hE hA hP hS hL
  have hts := hF.2.2.2.2.2.1
  have ok : ∀ w ∈ fmWs, w.before args s = true := fun w h => hts w (List.mem_cons_of_mem _ h)
  obtain ⟨hcb, hcs⟩ := hc
  refine vx_runS (As := args') (rest := st) ⟨hF.1, hF.2.1, hF.2.2.1, hF.2.2.2.2.1, hts⟩ (hM A rest) ⟨fm_callB hd hcb hts, ok _ hcs⟩ ⟨fmPc.blind, fun U hU hW => fm_pre hE hA hP hS hU hW⟩ rfl hn hL.1 rfl (lv_room hcat) hdg ⟨?_, ?_⟩
  · cases o with
    | inl v => exact Nat.zero_le _
    | inr E => rw [hcost E rfl]; simp [fmRm, fmMc]
  · cases o with
    | inl v => exact Nat.zero_le _
    | inr E => rw [hcost E rfl]; simp [fmRm, fmMs]
end FmCalls
theorem fm_then1 {T : fmT} {l : Launch} {G : fmG} {d : Nat} {y : fmY} {pc : Nat} {L : List (Option Value)} {st : List Value} {M' : fmM} {Q : fmR → fmM → Prop} {v : Value} (h : fmEv T l G d y pc L (v :: st) M' Q) : fmThen T l G d y pc L st Q (.inl (some v)) M' := h
theorem fm_then0 {T : fmT} {l : Launch} {G : fmG} {d : Nat} {y : fmY} {pc : Nat} {L : List (Option Value)} {st : List Value} {M' : fmM} {Q : fmR → fmM → Prop} (h : fmEv T l G d y pc L st M' Q) : fmThen T l G d y pc L st Q (.inl none) M' := h
theorem fm_thenX {T : fmT} {l : Launch} {G : fmG} {d : Nat} {y : fmY} {pc : Nat} {L : List (Option Value)} {st : List Value} {M' : fmM} {Q : fmR → fmM → Prop} {E : String} (h : Q (.inr E) M') : fmThen T l G d y pc L st Q (.inr E) M' := h
