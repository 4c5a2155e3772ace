-- ROWS THAT READ AND WRITE THE MEMORY, AND CALLS
section FmMem
variable {T : fmT} {l : Launch} {G : fmG} {d : Nat} {y : fmY} {pc : Nat} {L : List (Option Value)} {st : List Value} {M : fmM} {Q : fmR → fmM → Prop}
theorem fmL_obj {rest : va_W} {k ci : Nat} (hk : k < T.1) (hkd : T.2.1 k = ci + 6) : (fmL T G M ++ rest)[k]? = some (G.1 k, .inr (ci, (List.range (T.2.2.1 k)).map (fun j => fmVal T G M k j (fmTy ci j)))) := by
  rw [fmL_at hk]
  simp only [fmEnt, hkd]
theorem fmL_int {rest : va_W} {k : Nat} (hk : k < T.1) (hkd : T.2.1 k = 0) : (fmL T G M ++ rest)[k]? = some (G.1 k, .inl (G.2.2.1 0, T.2.2.1 k, .inl (M.1 k))) := by
  rw [fmL_at hk]
  simp only [fmEnt, hkd]
theorem fmL_byte {rest : va_W} {k : Nat} (hk : k < T.1) (hkd : T.2.1 k = 2) : (fmL T G M ++ rest)[k]? = some (G.1 k, .inl (G.2.2.1 2, T.2.2.1 k, .inl (M.1 k))) := by
  rw [fmL_at hk]
  simp only [fmEnt, hkd]
theorem fmL_long {rest : va_W} {k : Nat} (hk : k < T.1) (hkd : T.2.1 k = 1) : (fmL T G M ++ rest)[k]? = some (G.1 k, .inl (G.2.2.1 1, T.2.2.1 k, .inr (.inl (M.2 k)))) := by
  rw [fmL_at hk]
  simp only [fmEnt, hkd]
theorem fm_get {k j ci idx : Nat} (hf : fmFl y.1.cls idx ci j) (hk : k < T.1) (hkd : T.2.1 k = ci + 6) (hj : j < T.2.2.1 k) (hdg : decode y.2.1 pc = .ok (.getfield idx, 3)) (kk : fmEv T l G d y (pc + 3) L (fmVal T G M k j (fmTy ci j) :: st) M Q) : fmEv T l G d y pc L (.ref (G.1 k) :: st) M Q := by
  obtain ⟨o, M', hq, kk⟩ := kk
  refine ⟨o, M', hq, ?_⟩
  intro p e s m args below meth c H locs A rest ls hst hF hE hA hP hS hL
  obtain ⟨r, hcl, hjr, hln⟩ := hf
  have hts := hF.2.2.2.2.2.1
  refine va_get (C := r.1) (T := r.2.1) (N := r.2.2) hF.1 hF.2.1 hts (fun w h => List.mem_cons_of_mem _ (hcl.2.1 w h)) hF.2.2.2.2.1 hE.1 hP.1 k (fmL_obj hk hkd) hcl.1 j hjr (hts _ (List.mem_cons_of_mem _ hln)) (fun _ h => h) (v := fmVal T G M k j (fmTy ci j)) ?_ hdg (kk p e s m args below meth c H locs A rest ls hst hF hE hA hP hS hL)
  simp [hj]
theorem fm_getI {k j ci idx : Nat} (hf : fmFl y.1.cls idx ci j) (hk : k < T.1) (hkd : T.2.1 k = ci + 6) (hj : j < T.2.2.1 k) (hty : fmTy ci j = .int) (hdg : decode y.2.1 pc = .ok (.getfield idx, 3)) (kk : fmEv T l G d y (pc + 3) L (.int (M.1 k j) :: st) M Q) : fmEv T l G d y pc L (.ref (G.1 k) :: st) M Q := fm_get hf hk hkd hj hdg (by rw [hty]; exact kk)
theorem fm_getJ {k j ci idx : Nat} (hf : fmFl y.1.cls idx ci j) (hk : k < T.1) (hkd : T.2.1 k = ci + 6) (hj : j < T.2.2.1 k) (hty : fmTy ci j = .long) (hdg : decode y.2.1 pc = .ok (.getfield idx, 3)) (kk : fmEv T l G d y (pc + 3) L (.long (M.2 k j) :: st) M Q) : fmEv T l G d y pc L (.ref (G.1 k) :: st) M Q := fm_get hf hk hkd hj hdg (by rw [hty]; exact kk)
theorem fm_getR {k j ci idx : Nat} (r : Nat) (hr : T.2.2.2 k j = r) (hf : fmFl y.1.cls idx ci j) (hk : k < T.1) (hkd : T.2.1 k = ci + 6) (hj : j < T.2.2.1 k) (hty : fmTy ci j ≠ .int ∧ fmTy ci j ≠ .long) (hdg : decode y.2.1 pc = .ok (.getfield idx, 3)) (kk : fmEv T l G d y (pc + 3) L (.ref (G.1 r) :: st) M Q) : fmEv T l G d y pc L (.ref (G.1 k) :: st) M Q := by
  refine fm_get hf hk hkd hj hdg ?_
  have e : fmVal T G M k j (fmTy ci j) = .ref (G.1 r) := by
    subst hr
    unfold fmVal
    split
    · rename_i h; exact absurd h hty.1
    · rename_i h; exact absurd h hty.2
    · rfl
  rw [e]
  exact kk
theorem fm_put {k j ci idx : Nat} {v : Value} {M1 : fmM} (hf : fmFl y.1.cls idx ci j) (hk : k < T.1) (hkd : T.2.1 k = ci + 6) (hj : j < T.2.2.1 k) (hfin : fmFin ci j = false) (hn : narrow (fmTy ci j) v = v) (hfit : fits (fmTy ci j) v = true) (h1 : ∀ k', k' ≠ k → fmEnt T G M1 k' = fmEnt T G M k') (h2 : fmEnt T G M1 k = .inr (ci, ((List.range (T.2.2.1 k)).map (fun j => fmVal T G M k j (fmTy ci j))).set j v)) (hdg : decode y.2.1 pc = .ok (.putfield idx, 3))
    (kk : fmEv T l G d y (pc + 3) L st M1 Q) : fmEv T l G d y pc L (v :: .ref (G.1 k) :: st) M Q := by
  obtain ⟨o, M', hq, kk⟩ := kk
  refine ⟨o, M', hq, ?_⟩
  intro p e s m args below meth c H locs A rest ls hst hF hE hA hP hS hL
  obtain ⟨r, hcl, hjr, hln⟩ := hf
  have hts := hF.2.2.2.2.2.1
  have hfr : (r.2.1 j).2.2.2 = false := by
    unfold fmFin at hfin
    rw [hcl.1] at hfin
    exact hfin
  refine va_put (C := r.1) (T := r.2.1) (N := r.2.2) hF.1 hF.2.1 hts (fun w h => List.mem_cons_of_mem _ (hcl.2.1 w h)) (fmTy ci) hcl.2.2.1 hcl.2.2.2 hF.2.2.2.2.1 hE.1 hP.1 hP.2 hS k (fmL_obj hk hkd) hcl.1 j hjr (hts _ (List.mem_cons_of_mem _ hln)) (fun _ h => h) hfr (hcl.2.2.1 j hjr) hn hfit (by simp [hj]) hdg (fun H1 locs1 hP1 hD1 hS1 => ?_)
  rw [← h2, fmL_set hk h1] at hP1 hD1
  exact kk p e s m args below meth c H1 locs1 A rest ls hst hF hE hA ⟨hP1, hD1⟩ hS1 hL
theorem fm_putI {k j ci idx : Nat} {x : Int32} (hf : fmFl y.1.cls idx ci j) (hk : k < T.1) (hkd : T.2.1 k = ci + 6) (hj : j < T.2.2.1 k) (hfin : fmFin ci j = false) (hty : fmTy ci j = .int) (hdg : decode y.2.1 pc = .ok (.putfield idx, 3)) (kk : fmEv T l G d y (pc + 3) L st (fmI M k j x) Q) : fmEv T l G d y pc L (.int x :: .ref (G.1 k) :: st) M Q := fm_put hf hk hkd hj hfin (by rw [hty]; rfl) (by rw [hty]; rfl) fmEnt_I (fmEnt_Iobj hkd hj hty) hdg kk
theorem fm_putJ {k j ci idx : Nat} {x : Int64} (hf : fmFl y.1.cls idx ci j) (hk : k < T.1) (hkd : T.2.1 k = ci + 6) (hj : j < T.2.2.1 k) (hfin : fmFin ci j = false) (hty : fmTy ci j = .long) (hdg : decode y.2.1 pc = .ok (.putfield idx, 3)) (kk : fmEv T l G d y (pc + 3) L st (fmJ M k j x) Q) : fmEv T l G d y pc L (.long x :: .ref (G.1 k) :: st) M Q := fm_put hf hk hkd hj hfin (by rw [hty]; rfl) (by rw [hty]; rfl) fmEnt_J (fmEnt_Jobj hkd hj hty) hdg kk
theorem fm_iald {k n : Nat} {i : Int32} (hk : k < T.1) (hkd : T.2.1 k = 0) (hln : T.2.2.1 k = n) (hin : vp_in i n) (hdg : decode y.2.1 pc = .ok (.iaload, 1)) (kk : fmEv T l G d y (pc + 1) L (.int (M.1 k i.toNatClampNeg) :: st) M Q) : fmEv T l G d y pc L (.int i :: .ref (G.1 k) :: st) M Q := by
  obtain ⟨o, M', hq, kk⟩ := kk
  subst hln
  refine ⟨o, M', hq, ?_⟩
  intro p e s m args below meth c H locs A rest ls hst hF hE hA hP hS hL
  exact va_iald hF.1 hF.2.1 hE.1 hP.1 k 0 (fmL_int hk hkd) rfl hin hdg (kk p e s m args below meth c H locs A rest ls hst hF hE hA hP hS hL)
theorem fm_bald {k n : Nat} {i : Int32} (hk : k < T.1) (hkd : T.2.1 k = 2) (hln : T.2.2.1 k = n) (hin : vp_in i n) (hdg : decode y.2.1 pc = .ok (.baload, 1)) (kk : fmEv T l G d y (pc + 1) L (.int (M.1 k i.toNatClampNeg) :: st) M Q) : fmEv T l G d y pc L (.int i :: .ref (G.1 k) :: st) M Q := by
  obtain ⟨o, M', hq, kk⟩ := kk
  subst hln
  refine ⟨o, M', hq, ?_⟩
  intro p e s m args below meth c H locs A rest ls hst hF hE hA hP hS hL
  exact va_bald hF.1 hF.2.1 hE.1 hP.1 k 2 (fmL_byte hk hkd) rfl hin hdg (kk p e s m args below meth c H locs A rest ls hst hF hE hA hP hS hL)
theorem fm_lald {k n : Nat} {i : Int32} (hk : k < T.1) (hkd : T.2.1 k = 1) (hln : T.2.2.1 k = n) (hin : vp_in i n) (hdg : decode y.2.1 pc = .ok (.laload, 1)) (kk : fmEv T l G d y (pc + 1) L (.long (M.2 k i.toNatClampNeg) :: st) M Q) : fmEv T l G d y pc L (.int i :: .ref (G.1 k) :: st) M Q := by
  obtain ⟨o, M', hq, kk⟩ := kk
  subst hln
  refine ⟨o, M', hq, ?_⟩
  intro p e s m args below meth c H locs A rest ls hst hF hE hA hP hS hL
  exact va_lald hF.1 hF.2.1 hE.1 hP.1 k 1 (fmL_long hk hkd) rfl hin hdg (kk p e s m args below meth c H locs A rest ls hst hF hE hA hP hS hL)
theorem fm_iast {k n : Nat} {i x : Int32} (hk : k < T.1) (hkd : T.2.1 k = 0) (hln : T.2.2.1 k = n) (hin : vp_in i n) (hdg : decode y.2.1 pc = .ok (.iastore, 1)) (kk : fmEv T l G d y (pc + 1) L st (fmI M k i.toNatClampNeg x) Q) : fmEv T l G d y pc L (.int x :: .int i :: .ref (G.1 k) :: st) M Q := by
  obtain ⟨o, M', hq, kk⟩ := kk
  subst hln
  refine ⟨o, M', hq, ?_⟩
  intro p e s m args below meth c H locs A rest ls hst hF hE hA hP hS hL
  refine va_iast hF.1 hF.2.1 hE.1 hP.1 hP.2 hS k 0 (fmL_int hk hkd) rfl hin hdg (fun H1 locs1 hP1 hD1 hS1 => ?_)
  rw [← fmEnt_Iarr hkd, fmL_set hk fmEnt_I] at hP1 hD1
  exact kk p e s m args below meth c H1 locs1 A rest ls hst hF hE hA ⟨hP1, hD1⟩ hS1 hL
theorem fm_bast {k n : Nat} {i x : Int32} (hk : k < T.1) (hkd : T.2.1 k = 2) (hln : T.2.2.1 k = n) (hin : vp_in i n) (hdg : decode y.2.1 pc = .ok (.bastore, 1)) (kk : fmEv T l G d y (pc + 1) L st (fmI M k i.toNatClampNeg (vp_nar .byte x)) Q) : fmEv T l G d y pc L (.int x :: .int i :: .ref (G.1 k) :: st) M Q := by
  obtain ⟨o, M', hq, kk⟩ := kk
  subst hln
  refine ⟨o, M', hq, ?_⟩
  intro p e s m args below meth c H locs A rest ls hst hF hE hA hP hS hL
  refine va_bast hF.1 hF.2.1 hE.1 hP.1 hP.2 hS k 2 (fmL_byte hk hkd) rfl hin hdg (fun H1 locs1 hP1 hD1 hS1 => ?_)
  rw [← fmEnt_Ibyte hkd, fmL_set hk fmEnt_I] at hP1 hD1
  exact kk p e s m args below meth c H1 locs1 A rest ls hst hF hE hA ⟨hP1, hD1⟩ hS1 hL
theorem fm_last {k n : Nat} {i : Int32} {x : Int64} (hk : k < T.1) (hkd : T.2.1 k = 1) (hln : T.2.2.1 k = n) (hin : vp_in i n) (hdg : decode y.2.1 pc = .ok (.lastore, 1)) (kk : fmEv T l G d y (pc + 1) L st (fmJ M k i.toNatClampNeg x) Q) : fmEv T l G d y pc L (.long x :: .int i :: .ref (G.1 k) :: st) M Q := by
  obtain ⟨o, M', hq, kk⟩ := kk
  subst hln
  refine ⟨o, M', hq, ?_⟩
  intro p e s m args below meth c H locs A rest ls hst hF hE hA hP hS hL
  refine va_last hF.1 hF.2.1 hE.1 hP.1 hP.2 hS k 1 (fmL_long hk hkd) rfl hin hdg (fun H1 locs1 hP1 hD1 hS1 => ?_)
  rw [← fmEnt_Jarr hkd, fmL_set hk fmEnt_J] at hP1 hD1
  exact kk p e s m args below meth c H1 locs1 A rest ls hst hF hE hA ⟨hP1, hD1⟩ hS1 hL
/-- an array of references, of kind 3, 4 or 5 -/
theorem fm_aald {k n kd r : Nat} {ty : FieldType} {i : Int32} (hk : k < T.1) (hkd : T.2.1 k = kd) (hty : (kd = 3 ∧ ty = .object "LifeDrawer$Shelf") ∨ (kd = 4 ∧ ty = .object "LifeDrawer$State") ∨ (kd = 5 ∧ ty = .array .int)) (hln : T.2.2.1 k = n) (hin : vp_in i n) (hr : T.2.2.2 k i.toNatClampNeg = r) (hdg : decode y.2.1 pc = .ok (.aaload, 1)) (kk : fmEv T l G d y (pc + 1) L (.ref (G.1 r) :: st) M Q) : fmEv T l G d y pc L (.int i :: .ref (G.1 k) :: st) M Q := by
  obtain ⟨o, M', hq, kk⟩ := kk
  subst hln
  subst hr
  refine ⟨o, M', hq, ?_⟩
  intro p e s m args below meth c H locs A rest ls hst hF hE hA hP hS hL
  have hlt : i.toNatClampNeg < T.2.2.1 k := Nat.not_le.mp fun q => hin (Or.inr q)
  have e1 : va_rf (fmRow T G k i.toNatClampNeg) = .ref (G.1 (T.2.2.2 k i.toNatClampNeg)) := by simp [fmRow, hlt, va_rf]
  have h1 : (fmL T G M ++ rest)[k]? = some (G.1 k, .inl (G.2.2.1 kd, T.2.2.1 k, .inr (.inr (.inr (.inr (fmRow T G k)))))) := by
    rw [fmL_at hk]
    rcases hty with ⟨rfl, -⟩ | ⟨rfl, -⟩ | ⟨rfl, -⟩ <;> simp only [fmEnt, hkd]
  have h2 : (fmTys G)[kd]? = some (G.2.2.1 kd, ty) := by
    rcases hty with ⟨rfl, rfl⟩ | ⟨rfl, rfl⟩ | ⟨rfl, rfl⟩ <;> rfl
  have K := kk p e s m args below meth c H locs A rest ls hst hF hE hA hP hS hL
  rw [← e1] at K
  exact W.aald (v := va_rf (fmRow T G k i.toNatClampNeg)) (ty := ty) hF.1 hF.2.1 (hP.1 k _ h1) ((hE.1.2 kd _ h2).1 (T.2.2.1 k) (fun j => va_rf (fmRow T G k j))) (by rcases hty with ⟨-, rfl⟩ | ⟨-, rfl⟩ | ⟨-, rfl⟩ <;> rfl) (fun q => by cases q) (by show ¬ (i < 0 ∨ (arrV _ _ _).slots.size ≤ _); rw [arrV_size]; exact hin) (by show (arrV _ _ _).slots[_]? = _; rw [arrV_read _ _ hlt]) rfl rfl hdg K
theorem fm_alenI {k n : Nat} {v : Int32} (hk : k < T.1) (hkd : T.2.1 k = 0) (hln : T.2.2.1 k = n) (hv : Int32.ofNat n = v) (hdg : decode y.2.1 pc = .ok (.arraylength, 1)) (kk : fmEv T l G d y (pc + 1) L (.int v :: st) M Q) : fmEv T l G d y pc L (.ref (G.1 k) :: st) M Q := by
  obtain ⟨o, M', hq, kk⟩ := kk
  subst hln
  refine ⟨o, M', hq, ?_⟩
  intro p e s m args below meth c H locs A rest ls hst hF hE hA hP hS hL
  exact va_alen hF.1 hF.2.1 hE.1 hP.1 k 0 (fmL_int hk hkd) (ty := .int) rfl hv hdg (kk p e s m args below meth c H locs A rest ls hst hF hE hA hP hS hL)
theorem fm_alenJ {k n : Nat} {v : Int32} (hk : k < T.1) (hkd : T.2.1 k = 1) (hln : T.2.2.1 k = n) (hv : Int32.ofNat n = v) (hdg : decode y.2.1 pc = .ok (.arraylength, 1)) (kk : fmEv T l G d y (pc + 1) L (.int v :: st) M Q) : fmEv T l G d y pc L (.ref (G.1 k) :: st) M Q := by
  obtain ⟨o, M', hq, kk⟩ := kk
  subst hln
  refine ⟨o, M', hq, ?_⟩
  intro p e s m args below meth c H locs A rest ls hst hF hE hA hP hS hL
  exact va_alen hF.1 hF.2.1 hE.1 hP.1 k 1 (fmL_long hk hkd) (ty := .long) rfl hv hdg (kk p e s m args below meth c H locs A rest ls hst hF hE hA hP hS hL)
/-- System.arraycopy of ints -/
theorem fm_copy {k0 k1 n0 n1 idx : Nat} {sp dp n : Int32} (hl : Cond.methodLink y.1.cls idx arraycopyName ∈ fmWs) (hw : Cond.native arraycopyName ∈ fmWs ∧ Cond.static arraycopyName ∈ fmWs ∧ Cond.initialized "java/lang/System" ∈ fmWs) (hk0 : k0 < T.1) (hd0 : T.2.1 k0 = 0) (hn0 : T.2.2.1 k0 = n0) (hk1 : k1 < T.1) (hd1 : T.2.1 k1 = 0) (hn1 : T.2.2.1 k1 = n1) (h1 : ¬ sp < 0) (h2 : ¬ dp < 0) (h3 : ¬ n < 0) (h4 : sp.toNatClampNeg + n.toNatClampNeg ≤ n0) (h5 : dp.toNatClampNeg + n.toNatClampNeg ≤ n1) (hc : (st.map fun v => v.category).sum ≤ 60) (hdg : decode y.2.1 pc = .ok (.invokestatic idx, 3))
    (kk : fmEv T l G d y (pc + 3) L st (fmA M k1 (va_cpy (M.1 k0) (M.1 k1) sp.toNatClampNeg dp.toNatClampNeg n.toNatClampNeg)) Q) : fmEv T l G d y pc L (.int n :: .int dp :: .ref (G.1 k1) :: .int sp :: .ref (G.1 k0) :: st) M Q := by
  obtain ⟨o, M', hq, kk⟩ := kk
  subst hn0
  subst hn1
  refine ⟨o, M', hq, ?_⟩
  intro p e s m args below meth c H locs A rest ls hst hF hE hA hP hS hL
  have hts := hF.2.2.2.2.2.1
  have ok : ∀ w ∈ fmWs, w.before args s = true := fun w h => hts w (List.mem_cons_of_mem _ h)
  have hfr : 1 ≤ (fmRm d o).frames := by show 1 ≤ d + 10; omega
  have hlo : (st.map fun v => v.category).sum + (nativeFrameWords "java/lang/System" "arraycopy" 5 + 11) ≤ (fmRm d o).locals := by
    have h9 : nativeFrameWords "java/lang/System" "arraycopy" 5 ≤ 60 := by decide +kernel
    show _ ≤ 60 * d + 200
    omega
  refine va_copyi hF.1 hF.2.1 (by rw [hF.2.2.1, hL.1]) hF.2.2.2.2.1 (ok _ hl) (ok _ hw.1) (ok _ hw.2.1) (ok _ hw.2.2) hE.1 hP.1 hP.2 hS k0 k1 0 0 (ty := .int) (fmL_int hk0 hd0) (fmL_int hk1 hd1) rfl rfl rfl h1 h2 h3 h4 h5 (fun i _ => rfl) hfr hlo hdg (fun H1 locs1 hP1 hD1 hS1 => ?_)
  have e1 : fmEnt T G (fmA M k1 (va_cpy (M.1 k0) (M.1 k1) sp.toNatClampNeg dp.toNatClampNeg n.toNatClampNeg)) k1 = .inl (G.2.2.1 0, T.2.2.1 k1, .inl (va_cpy (M.1 k0) (M.1 k1) sp.toNatClampNeg dp.toNatClampNeg n.toNatClampNeg)) := by
    simp [fmEnt, hd1, fmA]
  rw [← e1, fmL_set hk1 fmEnt_A] at hP1 hD1
  exact kk p e s m args below meth c H1 locs1 A rest ls hst hF hE hA ⟨hP1, hD1⟩ hS1 hL
-- ENDS
theorem fm_ireturn {v : Int32} (hr : y.2.2.2 = some .int) (hdg : decode y.2.1 pc = .ok (.ireturn, 1)) (hq : Q (.inl (some (.int v))) M) : fmEv T l G d y pc L [.int v] M Q := by
  refine ⟨_, _, hq, ?_⟩
  intro p e s m args below meth c H locs A rest ls hst hF hE hA hP hS hL
  have hlocks := hF.2.2.2.2.2.2.1
  exact vx_ret (W.iret hF.1 hF.2.1 (hF.2.2.2.1.trans hr) (fun t ht hW => ⟨⟨_, rfl, rfl⟩, by rw [ht]; exact hP, hS.F ht⟩) hS.2.2 hdg)
theorem fm_zreturn {v : Int32} (hr : y.2.2.2 = some .boolean) (hv : narrow .boolean (.int v) = .int v) (hdg : decode y.2.1 pc = .ok (.ireturn, 1)) (hq : Q (.inl (some (.int v))) M) : fmEv T l G d y pc L [.int v] M Q := by
  refine ⟨_, _, hq, ?_⟩
  intro p e s m args below meth c H locs A rest ls hst hF hE hA hP hS hL
  have hlocks := hF.2.2.2.2.2.2.1
  exact vx_ret (W.zret (ty := .boolean) hF.1 hF.2.1 (hF.2.2.2.1.trans hr) hv (fun t ht hW => ⟨⟨_, rfl, rfl⟩, by rw [ht]; exact hP, hS.F ht⟩) hS.2.2 hdg)
theorem fm_lreturn {v : Int64} (hr : y.2.2.2 = some .long) (hdg : decode y.2.1 pc = .ok (.lreturn, 1)) (hq : Q (.inl (some (.long v))) M) : fmEv T l G d y pc L [.long v] M Q := by
  refine ⟨_, _, hq, ?_⟩
  intro p e s m args below meth c H locs A rest ls hst hF hE hA hP hS hL
  have hlocks := hF.2.2.2.2.2.2.1
  exact vx_ret (W.lret hF.1 hF.2.1 (hF.2.2.2.1.trans hr) (fun t ht hW => ⟨⟨_, rfl, rfl⟩, by rw [ht]; exact hP, hS.F ht⟩) hS.2.2 hdg)
theorem fm_return (hr : y.2.2.2 = none) (hdg : decode y.2.1 pc = .ok (.return_, 1)) (hq : Q (.inl none) M) : fmEv T l G d y pc L [] M Q := by
  refine ⟨_, _, hq, ?_⟩
  intro p e s m args below meth c H locs A rest ls hst hF hE hA hP hS hL
  have hlocks := hF.2.2.2.2.2.2.1
  exact vx_ret (W.vret hF.1 hF.2.1 (hF.2.2.2.1.trans hr) (fun t ht hW => ⟨⟨_, rfl, rfl⟩, by rw [ht]; exact hP, hS.F ht⟩) hS.2.2 hdg)
end FmMem
-- CALLS
/-- the locals with which a method begins -/
def fmArgs : List Value → List (Option Value)
  | [] => []
  | v :: vs => if v.category = 2 then some v :: none :: fmArgs vs else some v :: fmArgs vs
theorem fmArgs_lv : ∀ (vs : List Value) (i j : Nat) (v : Value), (fmArgs vs)[j]? = some (some v) → (i + j, v) ∈ lv_args i vs
  | [], i, j, v, h => by simp [fmArgs] at h
  | u :: vs, i, j, v, h => by
    unfold fmArgs at h
    unfold lv_args
    by_cases hc : u.category = 2
    · simp only [hc, if_true] at h ⊢
      match j with
      | 0 => simp at h; subst h; exact List.mem_cons_self
      | 1 => simp at h
      | j + 2 =>
        simp at h
        have := fmArgs_lv vs (i + 2) j v h
        refine List.mem_cons_of_mem _ ?_
        rw [show i + (j + 2) = i + 2 + j by omega]
        exact this
    · simp only [hc, if_false] at h ⊢
      match j with
      | 0 => simp at h; subst h; exact List.mem_cons_self
      | j + 1 =>
        simp at h
        have := fmArgs_lv vs (i + 1) j v h
        refine List.mem_cons_of_mem _ ?_
        rw [show i + (j + 1) = i + 1 + j by omega]
        exact this
theorem fmGood_of {T : fmT} {l : Launch} {G : fmG} {d : Nat} {y : fmY} {args : List Value} {M : fmM} {Q : fmR → fmM → Prop} (hl : l.stackTraces = false) (hn : plainName y.1.cls = true) (hlen : (lg_sl args).length ≤ y.2.2.1) (h : fmEv T l G d y 0 (fmArgs args ++ List.replicate (y.2.2.1 - (fmArgs args).length) none) [] M Q) : fmGood T l G d y args M Q := by
  obtain ⟨o, M', hq, k⟩ := h
  refine ⟨o, M', hq, fun A rest => ?_⟩
  refine vx_ofW (cc := y.2.1) (maxL := y.2.2.1) (ret := y.2.2.2) hn rfl ?_
  intro p e s m args' below meth c s₁ B hml htab hv
  obtain ⟨rfl, hE, hA, hP⟩ := hv
  have hx := B.exec
  have hb := B.bytes
  have hr := B.returns
  have hts := atoms_spec (ws := fmWy y) B.pre
  have hown : s.vm.findClass y.1.cls = some m.cls := findClass_of_methodNamed B.named
  have hlocks := B.notSynchronized
  have hS : va_S A s.heap s.heap [] := va_S.rf
  have hl0 := lv_entry args (n := y.2.2.1) hlen
  rw [lg_entry_eq]
  generalize (lg_sl args ++ List.replicate (y.2.2.1 - (lg_sl args).length) Slot.unset).toArray = ls at hl0 ⊢
  refine k p e s m args.toArray below meth c s.heap [] A rest ls hl ⟨hx, hb, hml, hr, hown, hts, hlocks, htab⟩ hE hA hP hS ⟨hl0.1, hl0.2.1, fun i v hi => ?_⟩
  have h1 : (fmArgs args)[i]? = some (some v) := by
    rcases Nat.lt_or_ge i (fmArgs args).length with q | q
    · rwa [List.getElem?_append_left q] at hi
    · rw [List.getElem?_append_right q] at hi
      have := List.mem_of_getElem? hi
      simp at this
  have h2 := fmArgs_lv args 0 i v h1
  rw [Nat.zero_add] at h2
  exact hl0.2.2 (i, v) h2
