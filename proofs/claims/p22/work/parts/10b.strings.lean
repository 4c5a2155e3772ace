-- TEXTS: String.length() and charAt(i) over the class's five constants
section FmStr
variable {T : fmT} {l : Launch} {G : fmG} {d d' : Nat} {y y' : fmY} {pc idx n : Nat} {L : List (Option Value)} {st : List Value} {M : fmM} {Q : fmR → fmM → Prop}
theorem fm_i2c {x : Int32} (hdg : decode y.2.1 pc = .ok (.i2c, 1)) (k : fmEv T l G d y (pc + 1) L (.int (x.toUInt32 % 65536).toInt32 :: st) M Q) : fmEv T l G d y pc L (.int x :: st) M Q := fm_row (fun _ _ _ _ _ _ _ _ _ _ _ _ _ _ _ hx hb hL kk => lv_i2c hx hb hdg rfl kk) k
/-- a row over what stays true -/
theorem fm_rowE {pc' : Nat} {st' : List Value} (h : ∀ (p : Program) (e : Env) (R : Room) (s : State) (m : MethodId) (args : Array Value) (below : List Frame) (meth : Method) (c : Code) (H : Heap) (locs : List Loc) (cells slots : Nat) (Qf : State → Prop) (ls : Array Slot) (A : Nat → Prop), fmFix p s m args meth c y → fmEnv G A s → va_S A s.heap H locs → W p l e R s m args below meth c H locs cells slots Qf (F0 m pc' ls st') → W p l e R s m args below meth c H locs cells slots Qf (F0 m pc ls st))
    (k : fmEv T l G d y pc' L st' M Q) : fmEv T l G d y pc L st M Q := by
  obtain ⟨o, M', hq, k⟩ := k
  refine ⟨o, M', hq, ?_⟩
  intro p e s m args below meth c H locs A rest ls hst hF hE hA hP hS hL
  exact h p e _ s m args below meth c H locs 0 0 _ ls A hF hE hS (k p e s m args below meth c H locs A rest ls hst hF hE hA hP hS hL)
theorem fmEnv.str {A : Nat → Prop} {s : State} (h : fmEnv G A s) : vk_S 5 fmLen fmByt G.2.2.2.1 G.2.2.2.2 A s s.heap := h.2.2.2.2.1
theorem fmEnv.cs {A : Nat → Prop} {s : State} (h : fmEnv G A s) : fmSt G A s s.heap := h.2.2.2.2.2.2.2.2.2.2
theorem fm_sval {i : Nat} (hi : i < 5) (hw : Cond.fieldLink y.1.cls idx "java/lang/String" "value" "[B" ∈ fmWs) (hdg : decode y.2.1 pc = .ok (.getfield idx, 3)) (k : fmEv T l G d y (pc + 3) L (.ref (G.2.2.2.2 i) :: st) M Q) : fmEv T l G d y pc L (.ref (G.2.2.2.1 i) :: st) M Q :=
  fm_rowE (fun p e R s m args below meth c H locs cells slots Qf ls A hF hE hS kk => vk_getf hF.1 hF.2.1 (hE.str.1 i hi).2.2.1 hS hF.2.2.2.2.1 (hF.2.2.2.2.2.1 _ (List.mem_cons_of_mem _ hw)) (fun _ h => h) hdg kk) k
theorem fm_scod {i : Nat} (hi : i < 5) (hw : Cond.fieldLink y.1.cls idx "java/lang/String" "coder" "B" ∈ fmWs) (hdg : decode y.2.1 pc = .ok (.getfield idx, 3)) (k : fmEv T l G d y (pc + 3) L (.int 0 :: st) M Q) : fmEv T l G d y pc L (.ref (G.2.2.2.1 i) :: st) M Q :=
  fm_rowE (fun p e R s m args below meth c H locs cells slots Qf ls A hF hE hS kk => vk_getf hF.1 hF.2.1 (hE.str.1 i hi).2.1 hS hF.2.2.2.2.1 (hF.2.2.2.2.2.1 _ (List.mem_cons_of_mem _ hw)) (fun _ h => h) hdg kk) k
theorem fm_slen {i : Nat} {v : Int32} (hi : i < 5) (hv : Int32.ofNat (fmLen.getD i 0) = v) (hdg : decode y.2.1 pc = .ok (.arraylength, 1)) (k : fmEv T l G d y (pc + 1) L (.int v :: st) M Q) : fmEv T l G d y pc L (.ref (G.2.2.2.2 i) :: st) M Q :=
  fm_rowE (fun p e R s m args below meth c H locs cells slots Qf ls A hF hE hS kk => va_tlen hF.1 hF.2.1 (hE.str.1 i hi).2.2.2 hS hv hdg kk) k
theorem fm_sbald {i : Nat} {x : Int32} (hi : i < 5) (hin : vp_in x (fmLen.getD i 0)) (hdg : decode y.2.1 pc = .ok (.baload, 1)) (k : fmEv T l G d y (pc + 1) L (.int ((fmByt.getD i []).getD x.toNatClampNeg 0) :: st) M Q) : fmEv T l G d y pc L (.int x :: .ref (G.2.2.2.2 i) :: st) M Q :=
  fm_rowE (fun p e R s m args below meth c H locs cells slots Qf ls A hF hE hS kk => va_tb hF.1 hF.2.1 (hE.str.1 i hi).2.2.2 hS hin rfl hdg kk) k
theorem fm_gcs (hw : Cond.fieldLink y.1.cls idx "java/lang/String" "COMPACT_STRINGS" "Z" ∈ fmWs) (hdg : decode y.2.1 pc = .ok (.getstatic idx, 3)) (k : fmEv T l G d y (pc + 3) L (.int 1 :: st) M Q) : fmEv T l G d y pc L st M Q :=
  fm_rowE (fun p e R s m args below meth c H locs cells slots Qf ls A hF hE hS kk => va_gets hF.1 hF.2.1 hE.cs.1 hS hF.2.2.2.2.1 (hF.2.2.2.2.2.1 _ (List.mem_cons_of_mem _ hw)) (fun _ h => h) hdg kk) k
theorem fm_gsi (hw : Cond.fieldLink y.1.cls idx "jdk/internal/util/Preconditions" "SIOOBE_FORMATTER" "Ljava/util/function/BiFunction;" ∈ fmWs) (hdg : decode y.2.1 pc = .ok (.getstatic idx, 3)) (k : fmEv T l G d y (pc + 3) L (fmSi G :: st) M Q) : fmEv T l G d y pc L st M Q :=
  fm_rowE (fun p e R s m args below meth c H locs cells slots Qf ls A hF hE hS kk => va_gets hF.1 hF.2.1 hE.cs.2 hS hF.2.2.2.2.1 (hF.2.2.2.2.2.1 _ (List.mem_cons_of_mem _ hw)) (fun _ h => h) hdg kk) k
theorem fm_nreturn {v : Int32} (ty : FieldType) (hr : y.2.2.2 = some ty) (hv : narrow ty (.int v) = .int v) (hdg : decode y.2.1 pc = .ok (.ireturn, 1)) (hq : Q (.inl (some (.int v))) M) : fmEv T l G d y pc L [.int v] M Q := by
  refine ⟨_, _, hq, ?_⟩
  intro p e s m args below meth c H locs A rest ls hst hF hE hA hP hS hL
  have hlocks := hF.2.2.2.2.2.2.1
  exact vx_ret (W.zret (ty := ty) hF.1 hF.2.1 (hF.2.2.2.1.trans hr) hv (fun t ht hW => ⟨⟨_, rfl, rfl⟩, by rw [ht]; exact hP, hS.F ht⟩) hS.2.2 hdg)
/-- a call of a String's method -/
theorem fm_invT {i : Nat} {As args' : List Value} (hi : i < 5) (hc : fmCb y.1.cls idx y' n) (hm : Cond.instanceMethod y'.1 ∈ fmWs) (hs : Cond.selects "java/lang/String" y'.1 y'.1 ∈ fmWs) (hn : As.length = n) (hargs : args' = .ref (G.2.2.2.1 i) :: As) {st0 : List Value} (hst0 : st0 = As.reverse ++ .ref (G.2.2.2.1 i) :: st) (hcat : (st.map fun v => v.category).sum ≤ 8) (hd : d' + 1 ≤ d) (hdg : decode y.2.1 pc = .ok (.invokevirtual idx, 3)) (hg : fmGood T l G d' y' args' M (fmThen T l G d y (pc + 3) L st Q)) : fmEv T l G d y pc L st0 M Q := by
  subst hst0
  subst hargs
  refine fm_after ?_ hg
  intro o M1 o2 hM hcost p e s m args below meth c H locs A rest ls hst hF hE hA hP hS hL
  have hts := hF.2.2.2.2.2.1
  have ok : ∀ w ∈ fmWs, w.before args s = true := fun w h => hts w (List.mem_cons_of_mem _ h)
  have hrecv := vk_recv hE.str hi hS
  refine vx_runV (C := "java/lang/String") (As := As) (rest := st) ⟨hF.1, hF.2.1, hF.2.2.1, hF.2.2.2.2.1, hts⟩ (hM A rest) ⟨fm_callB hd hc hts, ok _ hm, ok _ hs⟩ ⟨fmPc.blind, hrecv, fun U hU hW => fm_pre hE hA hP hS hU hW⟩ rfl hn hL.1 rfl (lv_room hcat) hdg ⟨?_, ?_⟩
  · cases o with
    | inl v => exact Nat.zero_le _
    | inr E => rw [hcost E rfl]; simp [fmRm, fmMc]
  · cases o with
    | inl v => exact Nat.zero_le _
    | inr E => rw [hcost E rfl]; simp [fmRm, fmMs]
theorem fm_ldcT {i : Nat} {tx : String} (hR : ∀ (A : Nat → Prop) (s : State), fmEnv G A s → vk_R y.1.cls idx tx (G.2.2.2.1 i) s) (hdg : decode y.2.1 pc = .ok (.ldc idx, 2)) (k : fmEv T l G d y (pc + 2) L (.ref (G.2.2.2.1 i) :: st) M Q) : fmEv T l G d y pc L st M Q :=
  fm_rowE (fun p e R s m args below meth c H locs cells slots Qf ls A hF hE hS kk => va_ldcS hF.1 hF.2.1 hF.2.2.2.2.1 (hR A s hE) hdg kk) k
end FmStr
