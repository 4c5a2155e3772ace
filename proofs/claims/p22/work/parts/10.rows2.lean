section FmRows2
variable {T : fmT} {l : Launch} {G : fmG} {d : Nat} {y : fmY} {pc : Nat} {L : List (Option Value)} {st : List Value} {M : fmM} {Q : fmR → fmM → Prop}
theorem fm_iloadn {n : Fin 4} {x : Int32} (i : Nat) (hi : (n : Nat) = i) (hv : L[i]? = some (some (.int x))) (hdg : decode y.2.1 pc = .ok (.iload_n n, 1)) (k : fmEv T l G d y (pc + 1) L (.int x :: st) M Q) : fmEv T l G d y pc L st M Q := fm_iload_n (by rw [hi]; exact hv) hdg k
theorem fm_lloadn {n : Fin 4} {x : Int64} (i : Nat) (hi : (n : Nat) = i) (hv : L[i]? = some (some (.long x))) (hdg : decode y.2.1 pc = .ok (.lload_n n, 1)) (k : fmEv T l G d y (pc + 1) L (.long x :: st) M Q) : fmEv T l G d y pc L st M Q := fm_lload_n (by rw [hi]; exact hv) hdg k
theorem fm_aloadn {n : Fin 4} {x : Nat} (i : Nat) (hi : (n : Nat) = i) (hv : L[i]? = some (some (.ref x))) (hdg : decode y.2.1 pc = .ok (.aload_n n, 1)) (k : fmEv T l G d y (pc + 1) L (.ref x :: st) M Q) : fmEv T l G d y pc L st M Q := fm_aload_n (by rw [hi]; exact hv) hdg k
theorem fm_istoren {n : Fin 4} {x : Int32} (i : Nat) (hi : (n : Nat) = i) (hn : i < y.2.2.1) (h2 : fmNo2 L i = true) (hdg : decode y.2.1 pc = .ok (.istore_n n, 1)) (k : fmEv T l G d y (pc + 1) (L.set i (some (.int x))) st M Q) : fmEv T l G d y pc L (.int x :: st) M Q := by
  subst hi; exact fm_istore_n hn h2 hdg k
theorem fm_astoren {n : Fin 4} {x : Nat} (i : Nat) (hi : (n : Nat) = i) (hn : i < y.2.2.1) (h2 : fmNo2 L i = true) (hdg : decode y.2.1 pc = .ok (.astore_n n, 1)) (k : fmEv T l G d y (pc + 1) (L.set i (some (.ref x))) st M Q) : fmEv T l G d y pc L (.ref x :: st) M Q := by
  subst hi; exact fm_astore_n hn h2 hdg k
theorem fm_lstoren {n : Fin 4} {x : Int64} (i : Nat) (hi : (n : Nat) = i) (hn : i + 1 < y.2.2.1) (h2 : fmNo2 L i = true) (hdg : decode y.2.1 pc = .ok (.lstore_n n, 1)) (k : fmEv T l G d y (pc + 1) ((L.set i (some (.long x))).set (i + 1) none) st M Q) : fmEv T l G d y pc L (.long x :: st) M Q := by
  subst hi; exact fm_lstore_n hn h2 hdg k
theorem fm_iincc (i : Nat) {n : Int} {x : Int32} (c : Int32) (hc : Int32.ofInt n = c) (hl : L[i]? = some (some (.int x))) (hn : i < y.2.2.1) (h2 : fmNo2 L i = true) (hdg : decode y.2.1 pc = .ok (.iinc i n, 3)) (k : fmEv T l G d y (pc + 3) (L.set i (some (.int (x + c)))) st M Q) : fmEv T l G d y pc L st M Q := fm_iinc hl (by rw [hc]) hn h2 hdg k
/-- a number on the stack gets a name -/
theorem fm_top {x : Int32} (k : ∀ z : Int32, z = x → fmEv T l G d y pc L (.int z :: st) M Q) : fmEv T l G d y pc L (.int x :: st) M Q := k x rfl
end FmRows2
-- reads behind writes
theorem fmI_s (M : fmM) (k j : Nat) (v : Int32) : (fmI M k j v).1 k j = v := by simp [fmI, upd]
theorem fmI_j (M : fmM) {k j j' : Nat} (v : Int32) (h : j' ≠ j) : (fmI M k j v).1 k j' = M.1 k j' := by simp [fmI, upd, h]
theorem fmI_k (M : fmM) {k j k' : Nat} (v : Int32) (h : k' ≠ k) : (fmI M k j v).1 k' = M.1 k' := by simp [fmI, h]
theorem fmI_2 (M : fmM) (k j : Nat) (v : Int32) : (fmI M k j v).2 = M.2 := rfl
theorem fmJ_s (M : fmM) (k j : Nat) (v : Int64) : (fmJ M k j v).2 k j = v := by simp [fmJ, vp_updL]
theorem fmJ_j (M : fmM) {k j j' : Nat} (v : Int64) (h : j' ≠ j) : (fmJ M k j v).2 k j' = M.2 k j' := by simp [fmJ, vp_updL, h]
theorem fmJ_k (M : fmM) {k j k' : Nat} (v : Int64) (h : k' ≠ k) : (fmJ M k j v).2 k' = M.2 k' := by simp [fmJ, h]
theorem fmJ_1 (M : fmM) (k j : Nat) (v : Int64) : (fmJ M k j v).1 = M.1 := rfl
theorem fmA_s (M : fmM) (k : Nat) (f : Nat → Int32) : (fmA M k f).1 k = f := by simp [fmA]
theorem fmA_k (M : fmM) {k k' : Nat} (f : Nat → Int32) (h : k' ≠ k) : (fmA M k f).1 k' = M.1 k' := by simp [fmA, h]
theorem fmA_2 (M : fmM) (k : Nat) (f : Nat → Int32) : (fmA M k f).2 = M.2 := rfl
theorem fmB_s (M : fmM) (k : Nat) (f : Nat → Int64) : (fmB M k f).2 k = f := by simp [fmB]
theorem fmB_k (M : fmM) {k k' : Nat} (f : Nat → Int64) (h : k' ≠ k) : (fmB M k f).2 k' = M.2 k' := by simp [fmB, h]
theorem fmB_1 (M : fmM) (k : Nat) (f : Nat → Int64) : (fmB M k f).1 = M.1 := rfl
-- the throws of LifeDrawer
theorem fm_atI : ∀ w ∈ (fm_atX RX10 380 fmIAE 7 prog_18_method_2_code ["java/lang/RuntimeException", "java/lang/Exception"]).filter goodWord, w ∈ fmWs := fun w h => List.mem_filter.mpr ⟨(show ∀ w ∈ (fm_atX RX10 380 fmIAE 7 prog_18_method_2_code ["java/lang/RuntimeException", "java/lang/Exception"]).filter goodWord, w ∈ lw_tbl by decide +kernel) w h, (List.mem_filter.mp h).2⟩
theorem fm_noI : ∀ w ∈ (fm_atX RX10 380 fmIAE 7 prog_18_method_2_code ["java/lang/RuntimeException", "java/lang/Exception"]).filter (fun w => !goodWord w), w ∈ [Cond.castable fmIAE fmIAE, Cond.declares (Bundle.initS "java/lang/RuntimeException"), Cond.declares (Bundle.initS "java/lang/Exception"), Cond.declares (Bundle.initS Bundle.tN)] := by decide +kernel
theorem fm_goI : ∀ w ∈ Cond.classLink RX10 376 fmIAE :: Cond.initialized fmIAE :: (fm_atX RX10 380 fmIAE 7 prog_18_method_2_code ["java/lang/RuntimeException", "java/lang/Exception"]), vx_ot w = true := by decide +kernel
theorem fm_klI : Cond.classLink RX10 376 fmIAE ∈ fmWs := fm_in 605 (by decide +kernel) rfl
theorem fm_knI : Cond.initialized fmIAE ∈ fmWs := fm_in 18 (by decide +kernel) rfl
theorem fm_thrI {T : fmT} {l : Launch} {G : fmG} {d : Nat} {c9 : ByteArray} {n9 : String} {ds9 : String} {ml : Nat} {rt : Option FieldType} {pc : Nat} {L : List (Option Value)} {M : fmM} {Q : fmR → fmM → Prop} (d0 : decode c9 pc = .ok (.new 376, 3)) (d3 : decode c9 (pc + 3) = .ok (.dup, 1)) (d4 : decode c9 (pc + 4) = .ok (.ldc_w 378, 3)) (d7 : decode c9 (pc + 7) = .ok (.invokespecial 380, 3)) (d10 : decode c9 (pc + 10) = .ok (.athrow, 1)) (hq : Q (.inr fmIAE) M) : fmEv T l G d (⟨RX10, n9, ds9⟩, c9, ml, rt) pc L [] M Q :=
  fm_throw (B9 := [Cond.castable fmIAE fmIAE, Cond.declares (Bundle.initS "java/lang/RuntimeException"), Cond.declares (Bundle.initS "java/lang/Exception"), Cond.declares (Bundle.initS Bundle.tN)]) (text := "not within its bounds") (names := ["java/lang/RuntimeException", "java/lang/Exception"]) (ix := 7) (rx := prog_18_method_2_code) (sa := fun G => G.2.2.2.1 1) (by decide +kernel) (by decide +kernel) (by decide +kernel) (by decide +kernel) (by decide +kernel) (by decide +kernel) (by decide) fm_klI fm_knI (fun A s h => h.2.2.2.2.2.2.1) (fun A s args h => vx_c (fmCa.use h.2.2.2.1.1) (vx_c (fmDe.use h.2.2.2.1.2.2.2.1) (vx_c (fmDe.use h.2.2.2.1.2.2.2.2.1) (vx_c (fmDe.use h.2.2.2.1.2.2.2.2.2) vx_n)))) fm_atI fm_noI fm_goI (by decide) d0 d3 d4 d7 d10 hq
theorem fm_atN : ∀ w ∈ (fm_atX RX10 373 fmNSE 13 prog_30_method_4_code ["java/lang/RuntimeException", "java/lang/Exception"]).filter goodWord, w ∈ fmWs := fun w h => List.mem_filter.mpr ⟨(show ∀ w ∈ (fm_atX RX10 373 fmNSE 13 prog_30_method_4_code ["java/lang/RuntimeException", "java/lang/Exception"]).filter goodWord, w ∈ lw_tbl by decide +kernel) w h, (List.mem_filter.mp h).2⟩
theorem fm_noN : ∀ w ∈ (fm_atX RX10 373 fmNSE 13 prog_30_method_4_code ["java/lang/RuntimeException", "java/lang/Exception"]).filter (fun w => !goodWord w), w ∈ [Cond.castable fmNSE fmNSE, Cond.declares (Bundle.initS "java/lang/RuntimeException"), Cond.declares (Bundle.initS "java/lang/Exception"), Cond.declares (Bundle.initS Bundle.tN)] := by decide +kernel
theorem fm_goN : ∀ w ∈ Cond.classLink RX10 369 fmNSE :: Cond.initialized fmNSE :: (fm_atX RX10 373 fmNSE 13 prog_30_method_4_code ["java/lang/RuntimeException", "java/lang/Exception"]), vx_ot w = true := by decide +kernel
theorem fm_klN : Cond.classLink RX10 369 fmNSE ∈ fmWs := fm_in 942 (by decide +kernel) rfl
theorem fm_knN : Cond.initialized fmNSE ∈ fmWs := fm_in 24 (by decide +kernel) rfl
theorem fm_thrN {T : fmT} {l : Launch} {G : fmG} {d : Nat} {c9 : ByteArray} {n9 : String} {ds9 : String} {ml : Nat} {rt : Option FieldType} {pc : Nat} {L : List (Option Value)} {M : fmM} {Q : fmR → fmM → Prop} (d0 : decode c9 pc = .ok (.new 369, 3)) (d3 : decode c9 (pc + 3) = .ok (.dup, 1)) (d4 : decode c9 (pc + 4) = .ok (.ldc_w 371, 3)) (d7 : decode c9 (pc + 7) = .ok (.invokespecial 373, 3)) (d10 : decode c9 (pc + 10) = .ok (.athrow, 1)) (hq : Q (.inr fmNSE) M) : fmEv T l G d (⟨RX10, n9, ds9⟩, c9, ml, rt) pc L [] M Q :=
  fm_throw (B9 := [Cond.castable fmNSE fmNSE, Cond.declares (Bundle.initS "java/lang/RuntimeException"), Cond.declares (Bundle.initS "java/lang/Exception"), Cond.declares (Bundle.initS Bundle.tN)]) (text := "no such life") (names := ["java/lang/RuntimeException", "java/lang/Exception"]) (ix := 13) (rx := prog_30_method_4_code) (sa := fun G => G.2.2.2.1 0) (by decide +kernel) (by decide +kernel) (by decide +kernel) (by decide +kernel) (by decide +kernel) (by decide +kernel) (by decide) fm_klN fm_knN (fun A s h => h.2.2.2.2.2.1) (fun A s args h => vx_c (fmCa.use h.2.2.2.1.2.1) (vx_c (fmDe.use h.2.2.2.1.2.2.2.1) (vx_c (fmDe.use h.2.2.2.1.2.2.2.2.1) (vx_c (fmDe.use h.2.2.2.1.2.2.2.2.2) vx_n)))) fm_atN fm_noN fm_goN (by decide) d0 d3 d4 d7 d10 hq
-- java.lang.Math
section FmMath
variable {T : fmT} {l : Launch} {G : fmG} {d : Nat} {y : fmY} {pc idx : Nat} {L : List (Option Value)} {st : List Value} {M : fmM} {Q : fmR → fmM → Prop}
theorem fm_mmax {x z : Int32} (hc : fmCs y.1.cls idx qJ9_max_7cf53 2) (hcat : (st.map fun v => v.category).sum ≤ 8) (hdg : decode y.2.1 pc = .ok (.invokestatic idx, 3)) (k : fmEv T l G d y (pc + 3) L (.int (if x < z then z else x) :: st) M Q) : fmEv T l G d y pc L (.int z :: .int x :: st) M Q := by
  obtain ⟨o, M', hq, k⟩ := k
  refine ⟨o, M', hq, ?_⟩
  intro p e s m args below meth c H locs A rest ls hst hF hE hA hP hS hL
  have ok : ∀ w ∈ fmWs, w.before args s = true := fun w h => hF.2.2.2.2.2.1 w (List.mem_cons_of_mem _ h)
  have h4 : Cond.code Lib.Math.max.name Lib.Math.max.code 2 (some .int) ∈ fmWs := hc.1.2.2.1
  exact va_mmax hF.1 hF.2.1 (by rw [hF.2.2.1, hL.1]) hF.2.2.2.2.1 (ok _ hc.1.1) (ok _ hc.2) (ok _ hc.1.2.1) (ok _ h4) (by show 1 ≤ d + 10; omega) (by show _ ≤ 60 * d + 200; omega) (Nat.zero_le _) (Nat.zero_le _) hdg (k p e s m args below meth c H locs A rest ls hst hF hE hA hP hS hL)
theorem fm_mmin {x z : Int32} (hc : fmCs y.1.cls idx qJ9_min_7cf53 2) (hcat : (st.map fun v => v.category).sum ≤ 8) (hdg : decode y.2.1 pc = .ok (.invokestatic idx, 3)) (k : fmEv T l G d y (pc + 3) L (.int (if z < x then z else x) :: st) M Q) : fmEv T l G d y pc L (.int z :: .int x :: st) M Q := by
  obtain ⟨o, M', hq, k⟩ := k
  refine ⟨o, M', hq, ?_⟩
  intro p e s m args below meth c H locs A rest ls hst hF hE hA hP hS hL
  have ok : ∀ w ∈ fmWs, w.before args s = true := fun w h => hF.2.2.2.2.2.1 w (List.mem_cons_of_mem _ h)
  have h4 : Cond.code Lib.Math.min.name Lib.Math.min.code 2 (some .int) ∈ fmWs := hc.1.2.2.1
  exact va_mmin hF.1 hF.2.1 (by rw [hF.2.2.1, hL.1]) hF.2.2.2.2.1 (ok _ hc.1.1) (ok _ hc.2) (ok _ hc.1.2.1) (ok _ h4) (by show 1 ≤ d + 10; omega) (by show _ ≤ 60 * d + 200; omega) (Nat.zero_le _) (Nat.zero_le _) hdg (k p e s m args below meth c H locs A rest ls hst hF hE hA hP hS hL)
end FmMath
