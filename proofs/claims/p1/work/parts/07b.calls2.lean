section FmCall2
variable {T : fmT} {l : Launch} {G : fmG} {d d' : Nat} {y y' : fmY} {pc idx n : Nat} {L : List (Option Value)} {st : List Value} {M : fmM} {Q : fmR → fmM → Prop}
theorem fm_invV0 {k ci : Nat} (hc : fmCv y.1.cls idx y' 0 ci) (hk : k < T.1) (hkd : T.2.1 k = ci + 6) (hcat : (st.map fun v => v.category).sum ≤ 8) (hd : d' + 1 ≤ d) (hdg : decode y.2.1 pc = .ok (.invokevirtual idx, 3)) (hg : fmGood T l G d' y' [.ref (G.1 k)] M (fmThen T l G d y (pc + 3) L st Q)) : fmEv T l G d y pc L (.ref (G.1 k) :: st) M Q := fm_invV (As := []) hc hk hkd rfl rfl rfl hcat hd hdg hg
theorem fm_invV1 {k ci : Nat} {a0 : Value} (hc : fmCv y.1.cls idx y' 1 ci) (hk : k < T.1) (hkd : T.2.1 k = ci + 6) (hcat : (st.map fun v => v.category).sum ≤ 8) (hd : d' + 1 ≤ d) (hdg : decode y.2.1 pc = .ok (.invokevirtual idx, 3)) (hg : fmGood T l G d' y' [.ref (G.1 k), a0] M (fmThen T l G d y (pc + 3) L st Q)) : fmEv T l G d y pc L (a0 :: .ref (G.1 k) :: st) M Q := fm_invV (As := [a0]) hc hk hkd rfl rfl rfl hcat hd hdg hg
theorem fm_invV2 {k ci : Nat} {a0 a1 : Value} (hc : fmCv y.1.cls idx y' 2 ci) (hk : k < T.1) (hkd : T.2.1 k = ci + 6) (hcat : (st.map fun v => v.category).sum ≤ 8) (hd : d' + 1 ≤ d) (hdg : decode y.2.1 pc = .ok (.invokevirtual idx, 3)) (hg : fmGood T l G d' y' [.ref (G.1 k), a0, a1] M (fmThen T l G d y (pc + 3) L st Q)) : fmEv T l G d y pc L (a1 :: a0 :: .ref (G.1 k) :: st) M Q := fm_invV (As := [a0, a1]) hc hk hkd rfl rfl rfl hcat hd hdg hg
theorem fm_invV3 {k ci : Nat} {a0 a1 a2 : Value} (hc : fmCv y.1.cls idx y' 3 ci) (hk : k < T.1) (hkd : T.2.1 k = ci + 6) (hcat : (st.map fun v => v.category).sum ≤ 8) (hd : d' + 1 ≤ d) (hdg : decode y.2.1 pc = .ok (.invokevirtual idx, 3)) (hg : fmGood T l G d' y' [.ref (G.1 k), a0, a1, a2] M (fmThen T l G d y (pc + 3) L st Q)) : fmEv T l G d y pc L (a2 :: a1 :: a0 :: .ref (G.1 k) :: st) M Q := fm_invV (As := [a0, a1, a2]) hc hk hkd rfl rfl rfl hcat hd hdg hg
theorem fm_invV4 {k ci : Nat} {a0 a1 a2 a3 : Value} (hc : fmCv y.1.cls idx y' 4 ci) (hk : k < T.1) (hkd : T.2.1 k = ci + 6) (hcat : (st.map fun v => v.category).sum ≤ 8) (hd : d' + 1 ≤ d) (hdg : decode y.2.1 pc = .ok (.invokevirtual idx, 3)) (hg : fmGood T l G d' y' [.ref (G.1 k), a0, a1, a2, a3] M (fmThen T l G d y (pc + 3) L st Q)) : fmEv T l G d y pc L (a3 :: a2 :: a1 :: a0 :: .ref (G.1 k) :: st) M Q := fm_invV (As := [a0, a1, a2, a3]) hc hk hkd rfl rfl rfl hcat hd hdg hg
theorem fm_invV5 {k ci : Nat} {a0 a1 a2 a3 a4 : Value} (hc : fmCv y.1.cls idx y' 5 ci) (hk : k < T.1) (hkd : T.2.1 k = ci + 6) (hcat : (st.map fun v => v.category).sum ≤ 8) (hd : d' + 1 ≤ d) (hdg : decode y.2.1 pc = .ok (.invokevirtual idx, 3)) (hg : fmGood T l G d' y' [.ref (G.1 k), a0, a1, a2, a3, a4] M (fmThen T l G d y (pc + 3) L st Q)) : fmEv T l G d y pc L (a4 :: a3 :: a2 :: a1 :: a0 :: .ref (G.1 k) :: st) M Q := fm_invV (As := [a0, a1, a2, a3, a4]) hc hk hkd rfl rfl rfl hcat hd hdg hg
theorem fm_invV6 {k ci : Nat} {a0 a1 a2 a3 a4 a5 : Value} (hc : fmCv y.1.cls idx y' 6 ci) (hk : k < T.1) (hkd : T.2.1 k = ci + 6) (hcat : (st.map fun v => v.category).sum ≤ 8) (hd : d' + 1 ≤ d) (hdg : decode y.2.1 pc = .ok (.invokevirtual idx, 3)) (hg : fmGood T l G d' y' [.ref (G.1 k), a0, a1, a2, a3, a4, a5] M (fmThen T l G d y (pc + 3) L st Q)) : fmEv T l G d y pc L (a5 :: a4 :: a3 :: a2 :: a1 :: a0 :: .ref (G.1 k) :: st) M Q := fm_invV (As := [a0, a1, a2, a3, a4, a5]) hc hk hkd rfl rfl rfl hcat hd hdg hg
theorem fm_invS1 {a0 : Value} (hc : fmCs y.1.cls idx y' 1) (hcat : (st.map fun v => v.category).sum ≤ 8) (hd : d' + 1 ≤ d) (hdg : decode y.2.1 pc = .ok (.invokestatic idx, 3)) (hg : fmGood T l G d' y' [a0] M (fmThen T l G d y (pc + 3) L st Q)) : fmEv T l G d y pc L (a0 :: st) M Q := fm_invS (args' := [a0]) hc rfl rfl hcat hd hdg hg
theorem fm_invS2 {a0 a1 : Value} (hc : fmCs y.1.cls idx y' 2) (hcat : (st.map fun v => v.category).sum ≤ 8) (hd : d' + 1 ≤ d) (hdg : decode y.2.1 pc = .ok (.invokestatic idx, 3)) (hg : fmGood T l G d' y' [a0, a1] M (fmThen T l G d y (pc + 3) L st Q)) : fmEv T l G d y pc L (a1 :: a0 :: st) M Q := fm_invS (args' := [a0, a1]) hc rfl rfl hcat hd hdg hg
theorem fm_invS3 {a0 a1 a2 : Value} (hc : fmCs y.1.cls idx y' 3) (hcat : (st.map fun v => v.category).sum ≤ 8) (hd : d' + 1 ≤ d) (hdg : decode y.2.1 pc = .ok (.invokestatic idx, 3)) (hg : fmGood T l G d' y' [a0, a1, a2] M (fmThen T l G d y (pc + 3) L st Q)) : fmEv T l G d y pc L (a2 :: a1 :: a0 :: st) M Q := fm_invS (args' := [a0, a1, a2]) hc rfl rfl hcat hd hdg hg
theorem fm_invS4 {a0 a1 a2 a3 : Value} (hc : fmCs y.1.cls idx y' 4) (hcat : (st.map fun v => v.category).sum ≤ 8) (hd : d' + 1 ≤ d) (hdg : decode y.2.1 pc = .ok (.invokestatic idx, 3)) (hg : fmGood T l G d' y' [a0, a1, a2, a3] M (fmThen T l G d y (pc + 3) L st Q)) : fmEv T l G d y pc L (a3 :: a2 :: a1 :: a0 :: st) M Q := fm_invS (args' := [a0, a1, a2, a3]) hc rfl rfl hcat hd hdg hg
theorem fm_invS5 {a0 a1 a2 a3 a4 : Value} (hc : fmCs y.1.cls idx y' 5) (hcat : (st.map fun v => v.category).sum ≤ 8) (hd : d' + 1 ≤ d) (hdg : decode y.2.1 pc = .ok (.invokestatic idx, 3)) (hg : fmGood T l G d' y' [a0, a1, a2, a3, a4] M (fmThen T l G d y (pc + 3) L st Q)) : fmEv T l G d y pc L (a4 :: a3 :: a2 :: a1 :: a0 :: st) M Q := fm_invS (args' := [a0, a1, a2, a3, a4]) hc rfl rfl hcat hd hdg hg
theorem fm_invS6 {a0 a1 a2 a3 a4 a5 : Value} (hc : fmCs y.1.cls idx y' 6) (hcat : (st.map fun v => v.category).sum ≤ 8) (hd : d' + 1 ≤ d) (hdg : decode y.2.1 pc = .ok (.invokestatic idx, 3)) (hg : fmGood T l G d' y' [a0, a1, a2, a3, a4, a5] M (fmThen T l G d y (pc + 3) L st Q)) : fmEv T l G d y pc L (a5 :: a4 :: a3 :: a2 :: a1 :: a0 :: st) M Q := fm_invS (args' := [a0, a1, a2, a3, a4, a5]) hc rfl rfl hcat hd hdg hg
theorem fm_invS7 {a0 a1 a2 a3 a4 a5 a6 : Value} (hc : fmCs y.1.cls idx y' 7) (hcat : (st.map fun v => v.category).sum ≤ 8) (hd : d' + 1 ≤ d) (hdg : decode y.2.1 pc = .ok (.invokestatic idx, 3)) (hg : fmGood T l G d' y' [a0, a1, a2, a3, a4, a5, a6] M (fmThen T l G d y (pc + 3) L st Q)) : fmEv T l G d y pc L (a6 :: a5 :: a4 :: a3 :: a2 :: a1 :: a0 :: st) M Q := fm_invS (args' := [a0, a1, a2, a3, a4, a5, a6]) hc rfl rfl hcat hd hdg hg
theorem fm_ldc {v : Int32} (hw : Cond.constant y.1.cls idx v ∈ fmWs) (hdg : decode y.2.1 pc = .ok (.ldc idx, 2)) (k : fmEv T l G d y (pc + 2) L (.int v :: st) M Q) : fmEv T l G d y pc L st M Q := fm_roww (fun _ _ _ _ _ _ _ _ _ _ _ _ _ _ _ _ hF hE kk => lv_ldc hF.1 hF.2.1 hF.2.2.2.2.1 (hF.2.2.2.2.2.1 _ (List.mem_cons_of_mem _ hw)) hdg kk) k
theorem fm_ldcw {v : Int32} (hw : Cond.constant y.1.cls idx v ∈ fmWs) (hdg : decode y.2.1 pc = .ok (.ldc_w idx, 3)) (k : fmEv T l G d y (pc + 3) L (.int v :: st) M Q) : fmEv T l G d y pc L st M Q := fm_roww (fun _ _ _ _ _ _ _ _ _ _ _ _ _ _ _ _ hF hE kk => lv_ldcw hF.1 hF.2.1 hF.2.2.2.2.1 (hF.2.2.2.2.2.1 _ (List.mem_cons_of_mem _ hw)) hdg kk) k
theorem fm_ldc2 {v : Int64} (hw : Cond.constantLong y.1.cls idx v ∈ fmWs) (hdg : decode y.2.1 pc = .ok (.ldc2_w idx, 3)) (k : fmEv T l G d y (pc + 3) L (.long v :: st) M Q) : fmEv T l G d y pc L st M Q := fm_roww (fun _ _ _ _ _ _ _ _ _ _ _ _ _ _ _ _ hF hE kk => lv_ldc2 hF.1 hF.2.1 hF.2.2.2.2.1 (hF.2.2.2.2.2.1 _ (List.mem_cons_of_mem _ hw)) hdg kk) k
/-- where a tableswitch goes -/
def fmTsw (pc : Nat) (dflt lo hi : Int) (offs : Array Int) (x : Int32) : Int := if x.toInt < lo ∨ hi < x.toInt then (pc : Int) + dflt else (pc : Int) + offs.getD (x.toInt - lo).toNat 0
theorem fm_table {dflt lo hi : Int} {offs : Array Int} {len : Nat} {x : Int32} (tgt : Nat) (hsz : offs.size = (hi - lo + 1).toNat) (ht : fmTsw pc dflt lo hi offs x = (tgt : Int)) (hdg : decode y.2.1 pc = .ok (.tableswitch dflt lo hi offs, len)) (k : fmEv T l G d y tgt L st M Q) : fmEv T l G d y pc L (.int x :: st) M Q := by
  unfold fmTsw at ht
  by_cases h : x.toInt < lo ∨ hi < x.toInt
  · rw [if_pos h] at ht
    exact fm_row (fun _ _ _ _ _ _ _ _ _ _ _ _ _ _ _ hx hb hL kk => lv_tableOut hx hb hdg h ht kk) k
  · rw [if_neg h] at ht
    have h1 : ¬ x.toInt < lo := fun q => h (Or.inl q)
    have h2 : ¬ hi < x.toInt := fun q => h (Or.inr q)
    have h3 : (x.toInt - lo).toNat < offs.size := by omega
    have h4 : offs[(x.toInt - lo).toNat]? = some (offs.getD (x.toInt - lo).toNat 0) := by simp [h3]
    exact fm_row (fun _ _ _ _ _ _ _ _ _ _ _ _ _ _ _ hx hb hL kk => lv_tableIn hx hb hdg h1 h2 h4 ht kk) k
theorem fm_lookup {dflt : Int} {ps : Array (Int × Int)} {len : Nat} {x : Int32} (tgt : Nat) (hp : (ps.toList.zip (ps.toList.drop 1)).all (fun (a, next) => a.1 < next.1) = true) (ht : (pc : Int) + Op.lookupswitch.offset ps.toList dflt x.toInt = (tgt : Int)) (hdg : decode y.2.1 pc = .ok (.lookupswitch dflt ps, len)) (k : fmEv T l G d y tgt L st M Q) : fmEv T l G d y pc L (.int x :: st) M Q := fm_row (fun _ _ _ _ _ _ _ _ _ _ _ _ _ _ _ hx hb hL kk => lv_lookup hx hb hdg hp rfl ht kk) k
theorem fm_inl {i : Int32} {n : Nat} (h : (decide (0 ≤ i.toInt) && decide (i.toInt < n)) = true) : vp_in i n := by
  simp only [Bool.and_eq_true, decide_eq_true_eq] at h
  exact vp_in_iff.mpr h
/-- 'throw new E("text")' -/
theorem fm_throw {cls text : String} {names : List String} {ik is ic : Nat} {sa : fmG → Nat} (hcls : Bundle.fit cls = true) (hnames : ∀ n ∈ names, Bundle.fit n = true) (hlen : names.length ≤ 5) (hk : Cond.classLink y.1.cls ik cls ∈ fmWs) (hini : Cond.initialized cls ∈ fmWs) (hstr : ∀ (A : Nat → Prop) (s : State), fmEnv G A s → vk_R y.1.cls is text (sa G) s) (hca : ∀ (A : Nat → Prop) (s : State), fmEnv G A s → fmCa cls cls s) (hat : ∀ w ∈ (vx_atS y.1.cls ic cls names).filter goodWord, w ∈ fmWs) (hno : ∀ w ∈ (vx_atS y.1.cls ic cls names).filter (fun w => !goodWord w), w ∈ [Cond.castable cls cls]) (hgood : ∀ w ∈ Cond.classLink y.1.cls ik cls :: Cond.initialized cls :: vx_atS y.1.cls ic cls names, vx_ot w = true)
    (hcat : (st.map fun v => v.category).sum ≤ 8) (d0 : decode y.2.1 pc = .ok (.new ik, 3)) (d3 : decode y.2.1 (pc + 3) = .ok (.dup, 1)) (d4 : decode y.2.1 (pc + 4) = .ok (.ldc_w is, 3)) (d7 : decode y.2.1 (pc + 7) = .ok (.invokespecial ic, 3)) (d10 : decode y.2.1 (pc + 10) = .ok (.athrow, 1)) (hq : Q (.inr cls) M) : fmEv T l G d y pc L st M Q := by
  refine ⟨.inr cls, M, hq, ?_⟩
  intro p e s m args below meth c H locs A rest ls hst hF hE hA hP hS hL
  have hts := hF.2.2.2.2.2.1
  have ok : ∀ w ∈ fmWs, w.before args s = true := fun w h => hts w (List.mem_cons_of_mem _ h)
  have hat' : ∀ w ∈ vx_atS y.1.cls ic cls names, w.before args s = true := vx_hat (fun w h => ok w (hat w h)) hno (vx_c (fmCa.use (hca A s hE)) vx_n)
  refine vx_throwSW (sa := sa G) (text := text) hF.1 hF.2.1 hst hF.2.2.2.2.1 hcls hnames (ok _ hk) (ok _ hini) (hstr A s hE) hat' hgood hE.2.1 hE.2.2.1 hS (by rw [hF.2.2.1, hL.1]) d0 d3 d4 d7 d10 (fun x hx => (hF.2.2.2.2.2.2.2 x hx).elim) ?_ ?_ ?_ ?_ hF.2.2.2.2.2.2.1 ?_ hS.2.2 ?_ ?_
  · show names.length + 3 < d + 10; omega
  · show _ ≤ 60 * d + 200; omega
  · show 0 + 1 ≤ 1; omega
  · show 0 + 6 ≤ 6; omega
  · intro t hal hsz hkeep
    refine ⟨rfl, ⟨fun k q hq => (hP.1 k q hq).kept (hkeep q.1 (hP.1 k q hq).lt), hP.2⟩, Nat.le_trans hS.1 hsz, fun q h1 h2 => ?_⟩
    rw [hkeep q (Nat.lt_of_lt_of_le h1 hS.1)]
    exact hS.2.1 q h1 h2
  · show 0 + 1 ≤ 1; omega
  · show 0 + 6 ≤ 6; omega
end FmCall2
