-- THE CLASS READS A PAGE
def pgOne (ls : tC) (k : Nat) : Bool := ls.any (fun l => Nat.beq l.1 k && Nat.beq l.2 1)
theorem or6b : ∀ u, u < 64 → ∀ k, k < 6 → ∀ b, b < 2 → (nI u ||| (nI b) <<< (nI k &&& 31)) = nI (u ||| b <<< k) ∧ u ||| b <<< k < 64 := by decide +kernel
theorem bit6b : ∀ u, u < 64 → ∀ k, k < 6 → ∀ b, b < 2 → ∀ j, j < 6 → (u ||| b <<< k).testBit j = (u.testBit j || (Nat.beq k j && Nat.beq b 1)) := by decide +kernel
theorem has6z : ∀ w, w < 64 → ∀ k, k < 6 → ((nI w >>> (nI k &&& 31) &&& 1) = (0 : Int32) ↔ w.testBit k = false) := by decide +kernel
/-- lines read so far, on this side -/
def xpI (ls : tC) (seen bits i : Int32) (w u : Nat) : Prop := i.toInt = (ls.length : Int) ∧ seen = nI w ∧ w < 64 ∧ ls.length = pop6 w ∧ (∀ k, k < 6 → w.testBit k = pgHas ls k) ∧ bits = nI u ∧ u < 64 ∧ (∀ k, k < 6 → u.testBit k = pgOne ls k) ∧ (∀ l ∈ ls, l.1 < 6 ∧ l.2 ≤ 1)
theorem xpI.add {ls : tC} {seen bits i kk bb : Int32} {w u k b : Nat} (h : xpI ls seen bits i w u) (hk : kk.toInt = k) (hb : bb.toInt = b) (hk6 : k < 6) (hb1 : b < 2) (hn : w.testBit k = false) : xpI (ls ++ [(k, b)]) (seen ||| 1 <<< (kk &&& 31)) (bits ||| bb <<< (kk &&& 31)) (i + 1) (w ||| 1 <<< k) (u ||| b <<< k) := by
  obtain ⟨h1, h2, h3, h4, h5, h6, h7, h8, h9⟩ := h
  have p1 := pop6_le w h3
  have p2 := pop6_add w h3 k hk6 hn
  refine ⟨?_, ?_, p2.2, ?_, fun j hj => ?_, ?_, (or6b u h7 k hk6 b hb1).2, fun j hj => ?_, fun l hl => ?_⟩
  · rw [i32_p1 h1 (by omega)]
    simp
  · rw [h2, nI_is hk (by omega), or6 w h3 k hk6]
  · rw [p2.1, ← h4]
    simp
  · rw [bit6 w h3 k hk6 j hj, h5 j hj]
    simp [pgHas]
  · rw [h6, nI_is hk (by omega), nI_is hb (by omega), (or6b u h7 k hk6 b hb1).1]
  · rw [bit6b u h7 k hk6 b hb1 j hj, h8 j hj]
    simp [pgOne]
  · rcases List.mem_append.mp hl with h | h
    · exact h9 l h
    · rw [List.mem_singleton.mp h]
      exact ⟨hk6, by omega⟩
/-- what stands behind a good page -/
def xpEnd (M M' : fmM) (ls : tC) : Prop := (M'.1 27 0).toInt = (ls.length : Int) ∧ ls.length ≤ 6 ∧ (∃ w u : Nat, M'.1 27 1 = nI w ∧ M'.1 27 2 = nI u ∧ w < 64 ∧ u < 64 ∧ ls.length = pop6 w ∧ (∀ k, k < 6 → w.testBit k = pgHas ls k) ∧ (∀ k, k < 6 → u.testBit k = pgOne ls k)) ∧ (∀ l ∈ ls, l.1 < 6 ∧ l.2 ≤ 1) ∧ (∀ k j, k ≠ 1 → k ≠ 27 → M'.1 k j = M.1 k j ∧ M'.2 k j = M.2 k j) ∧ (∀ j, j ≠ 3 → j ≠ 4 → j ≠ 5 → M'.1 1 j = M.1 1 j) ∧ M'.1 1 4 = 0 ∧ scInv Tx invX M'

theorem s_numF1 {M : fmM} {Q : fmR → fmM → Prop} {x1 : Int32} (bx1 : 0 ≤ x1.toInt ∧ x1.toInt ≤ 0) {x2 : Int32} (bx2 : 1 ≤ x2.toInt ∧ x2.toInt ≤ 1) (f1_4 : 1 ≤ (M.1 1 4).toInt ∧ (M.1 1 4).toInt ≤ 3) (hI : scInv Tx invX M) (q0 : ∀ (n : Int32) (M' : fmM), (0 ≤ n.toInt ∧ n.toInt ≤ 1) → (1 ≤ (M'.1 1 4).toInt ∧ (M'.1 1 4).toInt ≤ 3) → scInv Tx invX M' → scFr [(1, 3, 1)] M M' → Q (.inl (some (.int n))) M') (q1 : ∀ (n : Int32) (M' : fmM), ((-1) ≤ n.toInt ∧ n.toInt ≤ (-1)) → (1 ≤ (M'.1 1 4).toInt ∧ (M'.1 1 4).toInt ≤ 3) → scInv Tx invX M' → scFr [(1, 3, 1)] M M' → Q (.inl (some (.int n))) M') : pvGood Tx 2 qX7_takeNumber [.ref 1, .int x1, .int x2] M Q := (hh_X7_takeNumber_19 M [x1.toInt, x2.toInt, (M.1 1 4).toInt] [.ref 1, .int x1, .int x2] (scEk.c1 bx1 (scEk.c1 bx2 (scEk.c1 f1_4 scEk.n0))) ⟨⟨1, by simp, rfl⟩, ⟨x1, rfl, scEv.at rfl⟩, ⟨x2, rfl, scEv.at rfl⟩, trivial⟩ (fun f hf => by rw [List.mem_singleton.mp hf]; exact scEv.at rfl) hI).imp (fun r M' h => by
  obtain ⟨⟨o, ho, hr, hf9, hm⟩, h1, h2⟩ := h
  rcases List.mem_cons.mp ho with rfl | ho
  · obtain ⟨n, rfl, c1, c2⟩ := hr; exact q0 n M' ⟨c1, c2⟩ (hm _ List.mem_cons_self) h1 h2
  rcases List.mem_cons.mp ho with rfl | ho
  · obtain ⟨n, rfl, c1, c2⟩ := hr; exact q1 n M' ⟨c1, c2⟩ (hm _ List.mem_cons_self) h1 h2
  · cases ho)
set_option maxRecDepth 20000 in
theorem x_signF {M : fmM} {Q : fmR → fmM → Prop} {c : Int32} (hc : 0 ≤ c.toInt) (hI : scInv Tx invX M) (hf : ¬ M.1 1 4 = 0) (hq : ∀ (M' : fmM) (w : Int32), scFr [(1, 3, 1)] M M' → scInv Tx invX M' → Q (.inl (some (.int w))) M') : pvGood Tx 1 qX7_takeSign [.ref 1, .int c] M Q := by
  refine pvGood_of (Nat.le_of_ble_eq_true rfl) ?_
  show pvEv Tx 1 qX7_takeSign 0 [some (.ref 1), some (.int c)] [] M Q
  refine pv_aloadn (pc := 0) (n := 0) 0 rfl rfl (fm_dec dtX7_takeSign 0 rfl) ?_
  refine pv_invV0 (k := 1) (d' := 0) (pc := 1) pcv_X7_31 (by decide) rfl (Nat.le_of_ble_eq_true rfl) (by decide) (fm_dec dtX7_takeSign 1 rfl) ?_
  refine s_peek hI (fun n1 M1 b1 m1 hI1 f1 => ?_) (fun n1 M1 b1 m1 hI1 f1 => ?_)
  · refine pv_then1 ?_
    refine pv_iloadn (pc := 4) (n := 1) 1 rfl rfl (fm_dec dtX7_takeSign 2 rfl) ?_
    refine pv_icmp_eq (pc := 5) 18 (by decide) (fm_dec dtX7_takeSign 3 rfl) (fun hc5 => ?_) (fun hc5 => ?_)
    · refine pv_aloadn (pc := 18) (n := 0) 0 rfl rfl (fm_dec dtX7_takeSign 10 rfl) ?_
      refine pv_dup (pc := 19) rfl (fm_dec dtX7_takeSign 11 rfl) ?_
      refine pv_getI (k := 1) (j := 3) (ci := 7) (pc := 20) pfl_X7_25 (by decide) rfl (by decide) (fm_dec dtX7_takeSign 12 rfl) ?_
      refine pv_iconst (pc := 23) (v := 1) (by decide) (fm_dec dtX7_takeSign 13 rfl) ?_
      refine pv_iadd (pc := 24) (fm_dec dtX7_takeSign 14 rfl) ?_
      refine pv_putI (k := 1) (j := 3) (ci := 7) (pc := 25) pfl_X7_25 (by decide) rfl (by decide) (fm_dec dtX7_takeSign 15 rfl) ?_
      refine pv_iconst (pc := 28) (v := 1) (by decide) (fm_dec dtX7_takeSign 16 rfl) ?_
      exact pv_zreturn (pc := 29) rfl (by first | exact Or.inr rfl | exact Or.inl rfl) (fm_dec dtX7_takeSign 17 rfl) (hq _ 1 (f1.toI rfl) (xI_3 hI1 (q := (M1.1 1 3).toInt.toNat + 1) (n := 600) (i32_p1 (by omega) (by omega)) (by omega) (by decide)))
    · refine pv_aloadn (pc := 8) (n := 0) 0 rfl rfl (fm_dec dtX7_takeSign 4 rfl) ?_
      refine pv_iconst (pc := 9) (v := 1) (by decide) (fm_dec dtX7_takeSign 5 rfl) ?_
      refine pv_aloadn (pc := 10) (n := 0) 0 rfl rfl (fm_dec dtX7_takeSign 6 rfl) ?_
      refine pv_getI (k := 1) (j := 3) (ci := 7) (pc := 11) pfl_X7_25 (by decide) rfl (by decide) (fm_dec dtX7_takeSign 7 rfl) ?_
      refine pv_invV2 (k := 1) (d' := 0) (pc := 14) pcv_X7_35 (by decide) rfl (Nat.le_of_ble_eq_true rfl) (by decide) (fm_dec dtX7_takeSign 8 rfl) ?_
      refine c_xfail1 (by rw [(f1 1 4 rfl).1]; exact hf) ?_
      refine pv_then1 ?_
      exact pv_zreturn (pc := 17) rfl (by first | exact Or.inr rfl | exact Or.inl rfl) (fm_dec dtX7_takeSign 9 rfl) (hq _ 0 f1 hI1)
  · refine pv_then1 ?_
    refine pv_iloadn (pc := 4) (n := 1) 1 rfl rfl (fm_dec dtX7_takeSign 2 rfl) ?_
    refine pv_icmp_eq (pc := 5) 18 (by decide) (fm_dec dtX7_takeSign 3 rfl) (fun hc5 => by exfalso; subst hc5; omega) (fun _ => ?_)
    refine pv_aloadn (pc := 8) (n := 0) 0 rfl rfl (fm_dec dtX7_takeSign 4 rfl) ?_
    refine pv_iconst (pc := 9) (v := 1) (by decide) (fm_dec dtX7_takeSign 5 rfl) ?_
    refine pv_aloadn (pc := 10) (n := 0) 0 rfl rfl (fm_dec dtX7_takeSign 6 rfl) ?_
    refine pv_getI (k := 1) (j := 3) (ci := 7) (pc := 11) pfl_X7_25 (by decide) rfl (by decide) (fm_dec dtX7_takeSign 7 rfl) ?_
    refine pv_invV2 (k := 1) (d' := 0) (pc := 14) pcv_X7_35 (by decide) rfl (Nat.le_of_ble_eq_true rfl) (by decide) (fm_dec dtX7_takeSign 8 rfl) ?_
    refine c_xfail1 (by rw [(f1 1 4 rfl).1]; exact hf) ?_
    refine pv_then1 ?_
    exact pv_zreturn (pc := 17) rfl (by first | exact Or.inr rfl | exact Or.inl rfl) (fm_dec dtX7_takeSign 9 rfl) (hq _ 0 f1 hI1)
set_option maxRecDepth 20000 in
theorem xp_f73 {Q : fmR → fmM → Prop} {M0 M : fmM} {k a : Nat} {v2 v3 v4 v5 v6 v7 : Option Value} (b74 : xdBad M0 M k a) (hq : ∀ M2 : fmM, xdBad M0 M2 k a → Q (.inl (some (.int 0))) M2) : pvEv Tx 3 qX2_read 73 [some (.ref 27), some (.ref 1), v2, v3, v4, v5, v6, v7] [] M Q := by
  refine pv_aloadn (pc := 73) (n := 1) 1 rfl rfl (fm_dec dtX2_read 43 rfl) ?_
  refine pv_invV0 (k := 1) (d' := 0) (pc := 74) pcv_X2_42 (by decide) rfl (Nat.le_of_ble_eq_true rfl) (by decide) (fm_dec dtX2_read 44 rfl) ?_
  refine c_xfailed (fun h9 => absurd h9 b74.nz) (fun _ => ?_) 
  refine pv_then1 ?_
  refine pv_if_eq (pc := 77) 82 (by decide) (fm_dec dtX2_read 45 rfl) (fun hc77 => by exfalso; revert hc77; decide) (fun _ => ?_)
  refine pv_iconst (pc := 80) (v := 0) (by decide) (fm_dec dtX2_read 46 rfl) ?_
  exact pv_zreturn (pc := 81) rfl (by first | exact Or.inr rfl | exact Or.inl rfl) (fm_dec dtX2_read 47 rfl) (hq _ b74)
set_option maxRecDepth 20000 in
theorem xp_f66 {Q : fmR → fmM → Prop} {M0 M : fmM} {k a : Nat} {v2 v3 v4 v5 v6 v7 : Option Value} (b69 : xdBad M0 M k a) (hq : ∀ M2 : fmM, xdBad M0 M2 k a → Q (.inl (some (.int 0))) M2) : pvEv Tx 3 qX2_read 66 [some (.ref 27), some (.ref 1), v2, v3, v4, v5, v6, v7] [] M Q := by
  refine pv_aloadn (pc := 66) (n := 1) 1 rfl rfl (fm_dec dtX2_read 39 rfl) ?_
  refine pv_bipush (pc := 67) (v := 59) (by decide) (fm_dec dtX2_read 40 rfl) ?_
  refine pv_invV1 (k := 1) (d' := 1) (pc := 69) pcv_X2_38 (by decide) rfl (Nat.le_of_ble_eq_true rfl) (by decide) (fm_dec dtX2_read 41 rfl) ?_
  refine x_signF (by decide) b69.2.2.2.2 b69.nz (fun M69 w69 f69 hI69 => ?_) 
  refine pv_then1 ?_
  refine pv_pop (pc := 72) rfl (fm_dec dtX2_read 42 rfl) ?_
  exact xp_f73 (b69.go f69 hI69) hq
set_option maxRecDepth 20000 in
theorem xp_f58 {Q : fmR → fmM → Prop} {M0 M : fmM} {k a : Nat} {x6 : Int32} {v2 v3 v4 v5 v7 : Option Value} (b61 : xdBad M0 M k a) (hq : ∀ M2 : fmM, xdBad M0 M2 k a → Q (.inl (some (.int 0))) M2) : pvEv Tx 3 qX2_read 58 [some (.ref 27), some (.ref 1), v2, v3, v4, v5, some (.int x6), v7] [] M Q := by
  refine pv_aloadn (pc := 58) (n := 1) 1 rfl rfl (fm_dec dtX2_read 34 rfl) ?_
  refine pv_iconst (pc := 59) (v := 0) (by decide) (fm_dec dtX2_read 35 rfl) ?_
  refine pv_iconst (pc := 60) (v := 1) (by decide) (fm_dec dtX2_read 36 rfl) ?_
  refine pv_invV2 (k := 1) (d' := 2) (pc := 61) pcv_X2_30 (by decide) rfl (Nat.le_of_ble_eq_true rfl) (by decide) (fm_dec dtX2_read 37 rfl) ?_
  refine s_numF1 (by decide) (by decide) b61.f13 b61.2.2.2.2 (fun n61 M61 c61 m61 hI61 f61 => ?_) (fun n61 M61 c61 m61 hI61 f61 => ?_)  
  · refine pv_then1 ?_
    refine pv_istore (pc := 64) (i := 7) (by decide) rfl (fm_dec dtX2_read 38 rfl) ?_
    dsimp only [List.set_cons_zero, List.set_cons_succ]
    exact xp_f66 (b61.go f61 hI61) hq
  · refine pv_then1 ?_
    refine pv_istore (pc := 64) (i := 7) (by decide) rfl (fm_dec dtX2_read 38 rfl) ?_
    dsimp only [List.set_cons_zero, List.set_cons_succ]
    exact xp_f66 (b61.go f61 hI61) hq
def ush (x z : Int32) : Int32 := (x.toUInt32 >>> (z.toUInt32 &&& Int32.toUInt32 31)).toInt32
def bcF1 (x : Int32) : Int32 := x - (ush x 1 &&& 1431655765)
def bcF2 (x : Int32) : Int32 := (x &&& 858993459) + (ush x 2 &&& 858993459)
def bcF3 (x : Int32) : Int32 := x + ush x 4 &&& 252645135
def bcF4 (x : Int32) : Int32 := x + ush x 8
def bcF5 (x : Int32) : Int32 := x + ush x 16 
def bcF (x : Int32) : Int32 := bcF5 (bcF4 (bcF3 (bcF2 (bcF1 x)))) &&& 63
theorem bc6 : ∀ w, w < 64 → bcF (nI w) = nI (pop6 w) := by decide +kernel
theorem pkc_J6_265 : pvKc RJ6 265 = some (265, .inl 1431655765) := by unfold pvKc; rw [pvK_12]; rfl
theorem pkc_J6_266 : pvKc RJ6 266 = some (266, .inl 858993459) := by unfold pvKc; rw [pvK_12]; rfl
theorem pkc_J6_267 : pvKc RJ6 267 = some (267, .inl 252645135) := by unfold pvKc; rw [pvK_12]; rfl
set_option maxRecDepth 20000 in
theorem c_bits {M : fmM} {Q : fmR → fmM → Prop} {x : Int32} (hq : Q (.inl (some (.int (bcF x)))) M) : pvGood Tx 0 qJ6_bitCount_0f7a4 [.int x] M Q := by
  refine pvGood_of (Nat.le_of_ble_eq_true rfl) ?_
  show pvEv Tx 0 qJ6_bitCount_0f7a4 0 [some (.int x)] [] M Q
  refine pv_iloadn (pc := 0) (n := 0) 0 rfl rfl (fm_dec dtJ6_bitCount_0f7a4 0 rfl) ?_
  refine pv_iloadn (pc := 1) (n := 0) 0 rfl rfl (fm_dec dtJ6_bitCount_0f7a4 1 rfl) ?_
  refine pv_iconst (pc := 2) (v := 1) (by decide) (fm_dec dtJ6_bitCount_0f7a4 2 rfl) ?_
  refine pv_iushr (pc := 3) (fm_dec dtJ6_bitCount_0f7a4 3 rfl) ?_
  refine pv_ldcw (pc := 4) pkc_J6_265 (fm_dec dtJ6_bitCount_0f7a4 4 rfl) ?_
  refine pv_iand (pc := 7) (fm_dec dtJ6_bitCount_0f7a4 5 rfl) ?_
  refine pv_isub (pc := 8) (fm_dec dtJ6_bitCount_0f7a4 6 rfl) ?_
  refine pv_istoren (pc := 9) (n := 0) 0 rfl (by decide) rfl (fm_dec dtJ6_bitCount_0f7a4 7 rfl) ?_
  dsimp only [List.set_cons_zero, List.set_cons_succ]
  refine pv_iloadn (pc := 10) (n := 0) 0 rfl rfl (fm_dec dtJ6_bitCount_0f7a4 8 rfl) ?_
  refine pv_ldcw (pc := 11) pkc_J6_266 (fm_dec dtJ6_bitCount_0f7a4 9 rfl) ?_
  refine pv_iand (pc := 14) (fm_dec dtJ6_bitCount_0f7a4 10 rfl) ?_
  refine pv_iloadn (pc := 15) (n := 0) 0 rfl rfl (fm_dec dtJ6_bitCount_0f7a4 11 rfl) ?_
  refine pv_iconst (pc := 16) (v := 2) (by decide) (fm_dec dtJ6_bitCount_0f7a4 12 rfl) ?_
  refine pv_iushr (pc := 17) (fm_dec dtJ6_bitCount_0f7a4 13 rfl) ?_
  refine pv_ldcw (pc := 18) pkc_J6_266 (fm_dec dtJ6_bitCount_0f7a4 14 rfl) ?_
  refine pv_iand (pc := 21) (fm_dec dtJ6_bitCount_0f7a4 15 rfl) ?_
  refine pv_iadd (pc := 22) (fm_dec dtJ6_bitCount_0f7a4 16 rfl) ?_
  refine pv_istoren (pc := 23) (n := 0) 0 rfl (by decide) rfl (fm_dec dtJ6_bitCount_0f7a4 17 rfl) ?_
  dsimp only [List.set_cons_zero, List.set_cons_succ]
  refine pv_iloadn (pc := 24) (n := 0) 0 rfl rfl (fm_dec dtJ6_bitCount_0f7a4 18 rfl) ?_
  refine pv_iloadn (pc := 25) (n := 0) 0 rfl rfl (fm_dec dtJ6_bitCount_0f7a4 19 rfl) ?_
  refine pv_iconst (pc := 26) (v := 4) (by decide) (fm_dec dtJ6_bitCount_0f7a4 20 rfl) ?_
  refine pv_iushr (pc := 27) (fm_dec dtJ6_bitCount_0f7a4 21 rfl) ?_
  refine pv_iadd (pc := 28) (fm_dec dtJ6_bitCount_0f7a4 22 rfl) ?_
  refine pv_ldcw (pc := 29) pkc_J6_267 (fm_dec dtJ6_bitCount_0f7a4 23 rfl) ?_
  refine pv_iand (pc := 32) (fm_dec dtJ6_bitCount_0f7a4 24 rfl) ?_
  refine pv_istoren (pc := 33) (n := 0) 0 rfl (by decide) rfl (fm_dec dtJ6_bitCount_0f7a4 25 rfl) ?_
  dsimp only [List.set_cons_zero, List.set_cons_succ]
  refine pv_iloadn (pc := 34) (n := 0) 0 rfl rfl (fm_dec dtJ6_bitCount_0f7a4 26 rfl) ?_
  refine pv_iloadn (pc := 35) (n := 0) 0 rfl rfl (fm_dec dtJ6_bitCount_0f7a4 27 rfl) ?_
  refine pv_bipush (pc := 36) (v := 8) (by decide) (fm_dec dtJ6_bitCount_0f7a4 28 rfl) ?_
  refine pv_iushr (pc := 38) (fm_dec dtJ6_bitCount_0f7a4 29 rfl) ?_
  refine pv_iadd (pc := 39) (fm_dec dtJ6_bitCount_0f7a4 30 rfl) ?_
  refine pv_istoren (pc := 40) (n := 0) 0 rfl (by decide) rfl (fm_dec dtJ6_bitCount_0f7a4 31 rfl) ?_
  dsimp only [List.set_cons_zero, List.set_cons_succ]
  refine pv_iloadn (pc := 41) (n := 0) 0 rfl rfl (fm_dec dtJ6_bitCount_0f7a4 32 rfl) ?_
  refine pv_iloadn (pc := 42) (n := 0) 0 rfl rfl (fm_dec dtJ6_bitCount_0f7a4 33 rfl) ?_
  refine pv_bipush (pc := 43) (v := 16) (by decide) (fm_dec dtJ6_bitCount_0f7a4 34 rfl) ?_
  refine pv_iushr (pc := 45) (fm_dec dtJ6_bitCount_0f7a4 35 rfl) ?_
  refine pv_iadd (pc := 46) (fm_dec dtJ6_bitCount_0f7a4 36 rfl) ?_
  refine pv_istoren (pc := 47) (n := 0) 0 rfl (by decide) rfl (fm_dec dtJ6_bitCount_0f7a4 37 rfl) ?_
  dsimp only [List.set_cons_zero, List.set_cons_succ]
  refine pv_iloadn (pc := 48) (n := 0) 0 rfl rfl (fm_dec dtJ6_bitCount_0f7a4 38 rfl) ?_
  refine pv_bipush (pc := 49) (v := 63) (by decide) (fm_dec dtJ6_bitCount_0f7a4 39 rfl) ?_
  refine pv_iand (pc := 51) (fm_dec dtJ6_bitCount_0f7a4 40 rfl) ?_
  exact pv_ireturn (pc := 52) rfl (fm_dec dtJ6_bitCount_0f7a4 41 rfl) hq
theorem c_bits6 {M : fmM} {Q : fmR → fmM → Prop} {w : Nat} (hw : w < 64) (hq : Q (.inl (some (.int (nI (pop6 w))))) M) : pvGood Tx 0 qJ6_bitCount_0f7a4 [.int (nI w)] M Q := c_bits (by rw [bc6 w hw]; exact hq)
theorem xdBad.fr {M0 M M' : fmM} {k a : Nat} (h : xdBad M M' k a) (hF : xdFr M0 M) : xdBad M0 M' k a := ⟨h.1, h.2.1, h.2.2.1, hF.trans h.2.2.2.1, h.2.2.2.2⟩
theorem xdBad.of0 {M M' : fmM} {tx : tX} {n q aa : Nat} {a : Int32} (h : xdOk M M' tx n q) (ha : a.toInt = aa) (h6 : aa ≤ n) : xdBad M (fmI (fmI M' 1 4 2) 1 5 a) 2 aa := ⟨(show (2 : Int32).toInt = ((2 : Nat) : Int) by decide), ha, by decide, ((h.2.2.1.set (Or.inr (Or.inl rfl))).set (Or.inr (Or.inr rfl))), xI_45 h.2.2.2 (kk := 2) (by decide) (by decide) ha h6 h.1.2.2.2.1.1⟩
theorem xpEnd.at {M0 M M' : fmM} {tx : tX} {n q : Nat} {ls : tC} {se bi i : Int32} {w u : Nat} (hF : xdFr M0 M') (k : xdOk M M' tx n q) (hP : xpI ls se bi i w u) : xpEnd M0 (fmI (fmI (fmI M' 27 0 (nI (pop6 w))) 27 1 (nI w)) 27 2 bi) ls := by
  obtain ⟨h1, h2, h3, h4, h5, h6, h7, h8, h9⟩ := hP
  have p6 := pop6_le w h3
  refine ⟨?_, by omega, ⟨w, u, rfl, h6, h3, h7, h4, h5, h8⟩, h9, fun k' j a b => ?_, fun j a b c => hF.2 j a b c, k.2.1, ?_⟩
  · show (nI (pop6 w)).toInt = _
    rw [nI_toInt (by omega), h4]
  · refine ⟨?_, (hF.1 k' j a).2⟩
    rw [fmI_k _ _ b, fmI_k _ _ b, fmI_k _ _ b]
    exact (hF.1 k' j a).1
  · exact xInv.put (xInv.put (xInv.put k.2.2.2 (scq_t _)) (scq_t _)) (scq_t _)
set_option maxRecDepth 20000 in
theorem xp_loop {Q : fmR → fmM → Prop} {tx : tX} {n : Nat} {M0 : fmM} (ht : tOk tx n) : ∀ (m : Nat) (M : fmM) (ls : tC) (se bi i : Int32) (w u p : Nat) (v5 v6 v7 : Option Value), xS2 M tx n p → M.1 1 4 = 0 → scInv Tx invX M → xdFr M0 M → xpI ls se bi i w u → ¬ pgL tx n m ls (sk tx p) = .inl (9, 0) → (∀ (M2 : fmM) (ls2 : tC), pgL tx n m ls (sk tx p) = .inr ls2 → xpEnd M0 M2 ls2 → Q (.inl (some (.int 1))) M2) → (∀ (M2 : fmM) (k a : Nat), pgL tx n m ls (sk tx p) = .inl (k, a) → xdBad M0 M2 k a → Q (.inl (some (.int 0))) M2) → pvEv Tx 3 qX2_read 7 [some (.ref 27), some (.ref 1), some (.int se), some (.int bi), some (.int i), v5, v6, v7] [] M Q := by
  intro m
  induction m using Nat.strongRecOn with
  | _ m ih =>
    intro M ls se bi i w u p v5 v6 v7 hS hf hI hF hP hne hok hbad
    obtain ⟨f, rfl⟩ : ∃ f, m = f + 1 := (by cases m with | zero => exact absurd rfl hne | succ f => exact ⟨f, rfl⟩)
    refine pv_iload (pc := 7) (i := 4) rfl (fm_dec dtX2_read 6 rfl) ?_
    refine pv_bipush (pc := 9) (v := 6) (by decide) (fm_dec dtX2_read 7 rfl) ?_
    refine pv_icmp_gt (pc := 11) 103 (by decide) (fm_dec dtX2_read 8 rfl) (fun hc11 => by exfalso; rw [sc_lt] at hc11; have h8 : (6 : Int32).toInt = 6 := (by decide); have h7 := pop6_le w hP.2.2.1; have h6 := hP.1; have h5 := hP.2.2.2.1; omega) (fun _ => ?_)
    refine pv_aloadn (pc := 14) (n := 1) 1 rfl rfl (fm_dec dtX2_read 9 rfl) ?_
    refine pv_invV0 (k := 1) (d' := 0) (pc := 15) pcv_X2_21 (by decide) rfl (Nat.le_of_ble_eq_true rfl) (by decide) (fm_dec dtX2_read 10 rfl) ?_
    refine x_peek hS hf hI (fun M15 v15 hv15 k15 => ?_)
    refine pv_then1 ?_
    refine pv_iconst (pc := 18) (v := (-1)) (by decide) (fm_dec dtX2_read 11 rfl) ?_
    refine pv_icmp_eq (pc := 19) 103 (by decide) (fm_dec dtX2_read 12 rfl) (fun hc19 => ?_) (fun hc19 => ?_)
    · have hsp : sk tx p ≤ n := sp_le tB_1 ht hS.2.2.1
      have hnp : n ≤ sk tx p := (by by_cases h9 : n ≤ sk tx p; exact h9; exfalso; have h8 := ht.2.2 (sk tx p) (by omega); rw [hc19] at hv15; have h7 : (-1 : Int32).toInt = -1 := (by decide); omega)
      rw [hP.2.1]
      refine pv_aloadn (pc := 103) (n := 0) 0 rfl rfl (fm_dec dtX2_read 62 rfl) ?_
      refine pv_iloadn (pc := 104) (n := 2) 2 rfl rfl (fm_dec dtX2_read 63 rfl) ?_
      refine pv_iS1 (d' := 0) (pc := 105) pcs_X2_46 (Nat.le_of_ble_eq_true rfl) (by decide) (fm_dec dtX2_read 64 rfl) ?_
      refine c_bits6 hP.2.2.1 ?_
      refine pv_then1 ?_
      refine pv_putI (k := 27) (j := 0) (ci := 2) (pc := 108) pfl_X2_9 (by decide) rfl (by decide) (fm_dec dtX2_read 65 rfl) ?_
      refine pv_aloadn (pc := 111) (n := 0) 0 rfl rfl (fm_dec dtX2_read 66 rfl) ?_
      refine pv_iloadn (pc := 112) (n := 2) 2 rfl rfl (fm_dec dtX2_read 67 rfl) ?_
      refine pv_putI (k := 27) (j := 1) (ci := 2) (pc := 113) pfl_X2_15 (by decide) rfl (by decide) (fm_dec dtX2_read 68 rfl) ?_
      refine pv_aloadn (pc := 116) (n := 0) 0 rfl rfl (fm_dec dtX2_read 69 rfl) ?_
      refine pv_iloadn (pc := 117) (n := 3) 3 rfl rfl (fm_dec dtX2_read 70 rfl) ?_
      refine pv_putI (k := 27) (j := 2) (ci := 2) (pc := 118) pfl_X2_18 (by decide) rfl (by decide) (fm_dec dtX2_read 71 rfl) ?_
      refine pv_iconst (pc := 121) (v := 1) (by decide) (fm_dec dtX2_read 72 rfl) ?_
      exact pv_zreturn (pc := 122) rfl (by first | exact Or.inr rfl | exact Or.inl rfl) (fm_dec dtX2_read 73 rfl) (hok _ ls (pgL_0 hnp) (xpEnd.at (hF.trans k15.2.2.1) k15 hP))
    · have hsp : sk tx p ≤ n := sp_le tB_1 ht hS.2.2.1
      have hnp : ¬ n ≤ sk tx p := (fun h9 => hc19 (i32_ext (by rw [hv15, ht.2.1 _ h9]; decide)))
      refine pv_aloadn (pc := 22) (n := 1) 1 rfl rfl (fm_dec dtX2_read 13 rfl) ?_
      refine pv_invV0 (k := 1) (d' := 1) (pc := 23) pcv_X2_27 (by decide) rfl (Nat.le_of_ble_eq_true rfl) (by decide) (fm_dec dtX2_read 14 rfl) ?_
      refine x_next k15.1 k15.2.1 k15.2.2.2 (fun M23 x23 hx23 k23 => ?_)
      refine pv_then1 ?_
      refine pv_istore (pc := 26) (i := 5) (by decide) rfl (fm_dec dtX2_read 15 rfl) ?_
      dsimp only [List.set_cons_zero, List.set_cons_succ]
      refine pv_aloadn (pc := 28) (n := 1) 1 rfl rfl (fm_dec dtX2_read 16 rfl) ?_
      refine pv_iconst (pc := 29) (v := 0) (by decide) (fm_dec dtX2_read 17 rfl) ?_
      refine pv_iconst (pc := 30) (v := 5) (by decide) (fm_dec dtX2_read 18 rfl) ?_
      refine pv_invV2 (k := 1) (d' := 2) (pc := 31) pcv_X2_30 (by decide) rfl (Nat.le_of_ble_eq_true rfl) (by decide) (fm_dec dtX2_read 19 rfl) ?_
      refine x_numC 0 5 (by decide) (by decide) (by decide) k23.1 k23.2.1 k23.2.2.2 (fun M31 k31 q31 w31 e31 hw31 k31o => ?_) (fun M31 kb ab e31 b31 => ?_)
      · refine pv_then1 ?_
        refine pv_istore (pc := 34) (i := 6) (by decide) rfl (fm_dec dtX2_read 20 rfl) ?_
        dsimp only [List.set_cons_zero, List.set_cons_succ]
        have hk6 : k31 < 6 := (by have h9 := spNum_ok ht k23.1.2.2.1 e31; omega)
        have e31 : spNum tx 0 5 (sk tx p) = .inr (k31, q31) := (by rw [sk_sk ht hS.2.2.1] at e31; exact e31)
        refine pv_iload (pc := 36) (i := 6) rfl (fm_dec dtX2_read 21 rfl) ?_
        refine pv_if_lt (pc := 38) 58 (by decide) (fm_dec dtX2_read 22 rfl) (fun hc38 => by exfalso; have h9 := hc38; rw [sc_lt] at h9; have h8 : (0 : Int32).toInt = 0 := (by decide); omega) (fun _ => ?_)
        refine pv_iloadn (pc := 41) (n := 2) 2 rfl rfl (fm_dec dtX2_read 23 rfl) ?_
        refine pv_iload (pc := 42) (i := 6) rfl (fm_dec dtX2_read 24 rfl) ?_
        refine pv_ishr (pc := 44) (fm_dec dtX2_read 25 rfl) ?_
        refine pv_iconst (pc := 45) (v := 1) (by decide) (fm_dec dtX2_read 26 rfl) ?_
        refine pv_iand (pc := 46) (fm_dec dtX2_read 27 rfl) ?_
        refine pv_if_eq (pc := 47) 58 (by decide) (fm_dec dtX2_read 28 rfl) (fun hc47 => ?_) (fun hc47 => ?_)
        · have hbit : w.testBit k31 = false := (has6z w hP.2.2.1 k31 hk6).mp (by have h9 := hc47; rw [hP.2.1, nI_is hw31 (by omega)] at h9; exact h9)
          have hns : pgHas ls k31 = false := (by rw [← hP.2.2.2.2.1 k31 hk6]; exact hbit)
          refine pv_aloadn (pc := 58) (n := 1) 1 rfl rfl (fm_dec dtX2_read 34 rfl) ?_
          refine pv_iconst (pc := 59) (v := 0) (by decide) (fm_dec dtX2_read 35 rfl) ?_
          refine pv_iconst (pc := 60) (v := 1) (by decide) (fm_dec dtX2_read 36 rfl) ?_
          refine pv_invV2 (k := 1) (d' := 2) (pc := 61) pcv_X2_30 (by decide) rfl (Nat.le_of_ble_eq_true rfl) (by decide) (fm_dec dtX2_read 37 rfl) ?_
          refine x_numC 0 1 (by decide) (by decide) (by decide) k31o.1 k31o.2.1 k31o.2.2.2 (fun M61 b61 q61 w61 e61 hw61 k61 => ?_) (fun M61 kb ab e61 b61 => ?_)
          · refine pv_then1 ?_
            refine pv_istore (pc := 64) (i := 7) (by decide) rfl (fm_dec dtX2_read 38 rfl) ?_
            dsimp only [List.set_cons_zero, List.set_cons_succ]
            have hb2 : b61 < 2 := (by have h9 := spNum_ok ht k31o.1.2.2.1 e61; omega)
            refine pv_aloadn (pc := 66) (n := 1) 1 rfl rfl (fm_dec dtX2_read 39 rfl) ?_
            refine pv_bipush (pc := 67) (v := 59) (by decide) (fm_dec dtX2_read 40 rfl) ?_
            refine pv_invV1 (k := 1) (d' := 1) (pc := 69) pcv_X2_38 (by decide) rfl (Nat.le_of_ble_eq_true rfl) (by decide) (fm_dec dtX2_read 41 rfl) ?_
            refine x_signC 59 (by decide) (by decide) k61.1 k61.2.1 k61.2.2.2 (fun M69 q69 e69 k69 => ?_) (fun M69 kb ab e69 b69 => ?_)
            · refine pv_then1 ?_
              refine pv_pop (pc := 72) rfl (fm_dec dtX2_read 42 rfl) ?_
              refine pv_aloadn (pc := 73) (n := 1) 1 rfl rfl (fm_dec dtX2_read 43 rfl) ?_
              refine pv_invV0 (k := 1) (d' := 0) (pc := 74) pcv_X2_42 (by decide) rfl (Nat.le_of_ble_eq_true rfl) (by decide) (fm_dec dtX2_read 44 rfl) ?_
              refine c_xfailed (fun _ => ?_) (fun h9 => absurd k69.2.1 h9) 
              refine pv_then1 ?_
              refine pv_if_eq (pc := 77) 82 (by decide) (fm_dec dtX2_read 45 rfl) (fun _ => ?_) (fun hc77 => by exfalso; revert hc77; decide)
              refine pv_iloadn (pc := 82) (n := 2) 2 rfl rfl (fm_dec dtX2_read 48 rfl) ?_
              refine pv_iconst (pc := 83) (v := 1) (by decide) (fm_dec dtX2_read 49 rfl) ?_
              refine pv_iload (pc := 84) (i := 6) rfl (fm_dec dtX2_read 50 rfl) ?_
              refine pv_ishl (pc := 86) (fm_dec dtX2_read 51 rfl) ?_
              refine pv_ior (pc := 87) (fm_dec dtX2_read 52 rfl) ?_
              refine pv_istoren (pc := 88) (n := 2) 2 rfl (by decide) rfl (fm_dec dtX2_read 53 rfl) ?_
              dsimp only [List.set_cons_zero, List.set_cons_succ]
              refine pv_iloadn (pc := 89) (n := 3) 3 rfl rfl (fm_dec dtX2_read 54 rfl) ?_
              refine pv_iload (pc := 90) (i := 7) rfl (fm_dec dtX2_read 55 rfl) ?_
              refine pv_iload (pc := 92) (i := 6) rfl (fm_dec dtX2_read 56 rfl) ?_
              refine pv_ishl (pc := 94) (fm_dec dtX2_read 57 rfl) ?_
              refine pv_ior (pc := 95) (fm_dec dtX2_read 58 rfl) ?_
              refine pv_istoren (pc := 96) (n := 3) 3 rfl (by decide) rfl (fm_dec dtX2_read 59 rfl) ?_
              dsimp only [List.set_cons_zero, List.set_cons_succ]
              refine pv_iincc (pc := 97) 4 1 (by decide) rfl (by decide) rfl (fm_dec dtX2_read 60 rfl) ?_
              dsimp only [List.set_cons_zero, List.set_cons_succ]
              refine pv_goto (pc := 100) 7 (by decide) (fm_dec dtX2_read 61 rfl) ?_
              have e9 := pgL_5 (f := f) (ls := ls) hnp e31 hns e61 e69
              rw [e9] at hne hok hbad
              exact ih f (by omega) M69 (ls ++ [(k31, b61)]) _ _ _ (w ||| 1 <<< k31) (u ||| b61 <<< k31) q69 _ _ _ k69.1 k69.2.1 k69.2.2.2 (hF.trans (k15.2.2.1.trans (k23.2.2.1.trans (k31o.2.2.1.trans (k61.2.2.1.trans k69.2.2.1))))) (hP.add hw31 hw61 hk6 hb2 hbit) hne hok hbad
            · refine pv_then1 ?_
              refine pv_pop (pc := 72) rfl (fm_dec dtX2_read 42 rfl) ?_
              exact xp_f73 b69 (fun M2 h2 => hbad M2 kb ab (pgL_4 hnp e31 hns e61 e69) (h2.fr (hF.trans (k15.2.2.1.trans (k23.2.2.1.trans (k31o.2.2.1.trans k61.2.2.1))))))
          · refine pv_then1 ?_
            refine pv_istore (pc := 64) (i := 7) (by decide) rfl (fm_dec dtX2_read 38 rfl) ?_
            dsimp only [List.set_cons_zero, List.set_cons_succ]
            exact xp_f66 b61 (fun M2 h2 => hbad M2 kb ab (pgL_3 hnp e31 hns e61) (h2.fr (hF.trans (k15.2.2.1.trans (k23.2.2.1.trans k31o.2.2.1)))))
        · refine pv_aloadn (pc := 50) (n := 1) 1 rfl rfl (fm_dec dtX2_read 29 rfl) ?_
          refine pv_iconst (pc := 51) (v := 2) (by decide) (fm_dec dtX2_read 30 rfl) ?_
          refine pv_iload (pc := 52) (i := 5) rfl (fm_dec dtX2_read 31 rfl) ?_
          refine pv_invV2 (k := 1) (d' := 0) (pc := 54) pcv_X2_34 (by decide) rfl (Nat.le_of_ble_eq_true rfl) (by decide) (fm_dec dtX2_read 32 rfl) ?_
          refine c_xfail0 k31o.2.1 ?_
          refine pv_then1 ?_
          refine pv_pop (pc := 57) rfl (fm_dec dtX2_read 33 rfl) ?_
          have hbit : w.testBit k31 = true := (by cases h8 : w.testBit k31 with | true => rfl | false => exact absurd (by have h9 := (has6z w hP.2.2.1 k31 hk6).mpr h8; rw [hP.2.1, nI_is hw31 (by omega)]; exact h9) hc47)
          have hns : pgHas ls k31 = true := (by rw [← hP.2.2.2.2.1 k31 hk6]; exact hbit)
          exact xp_f58 (xdBad.of0 k31o hx23 (show sk tx (sk tx p) ≤ n from by rw [sk_sk ht hS.2.2.1]; exact hsp)) (fun M2 h2 => hbad M2 2 (sk tx p) (pgL_2 hnp e31 hns) ((by rw [sk_sk ht hS.2.2.1] at h2; exact h2.fr (hF.trans (k15.2.2.1.trans k23.2.2.1)))))
      · refine pv_then1 ?_
        refine pv_istore (pc := 34) (i := 6) (by decide) rfl (fm_dec dtX2_read 20 rfl) ?_
        dsimp only [List.set_cons_zero, List.set_cons_succ]
        refine pv_iload (pc := 36) (i := 6) rfl (fm_dec dtX2_read 21 rfl) ?_
        refine pv_if_lt (pc := 38) 58 (by decide) (fm_dec dtX2_read 22 rfl) (fun _ => ?_) (fun hc38 => by exfalso; revert hc38; decide)
        have e31 : spNum tx 0 5 (sk tx p) = .inl (kb, ab) := (by rw [sk_sk ht hS.2.2.1] at e31; exact e31)
        exact xp_f58 b31 (fun M2 h2 => hbad M2 kb ab (pgL_1 hnp e31) (h2.fr (hF.trans (k15.2.2.1.trans k23.2.2.1))))
set_option maxRecDepth 20000 in
theorem c_xpread {M : fmM} {Q : fmR → fmM → Prop} {tx : tX} {n : Nat} (hS : xS2 M tx n 0) (hf : M.1 1 4 = 0) (hI : scInv Tx invX M) (hok : ∀ (M2 : fmM) (ls2 : tC), spPage tx n = .inr ls2 → xpEnd M M2 ls2 → Q (.inl (some (.int 1))) M2) (hbad : ∀ (M2 : fmM) (k a : Nat), spPage tx n = .inl (k, a) → xdBad M M2 k a → Q (.inl (some (.int 0))) M2) : pvGood Tx 3 qX2_read [.ref 27, .ref 1] M Q := by
  refine pvGood_of (Nat.le_of_ble_eq_true rfl) ?_
  show pvEv Tx 3 qX2_read 0 [some (.ref 27), some (.ref 1), none, none, none, none, none, none] [] M Q
  refine pv_iconst (pc := 0) (v := 0) (by decide) (fm_dec dtX2_read 0 rfl) ?_
  refine pv_istoren (pc := 1) (n := 2) 2 rfl (by decide) rfl (fm_dec dtX2_read 1 rfl) ?_
  dsimp only [List.set_cons_zero, List.set_cons_succ]
  refine pv_iconst (pc := 2) (v := 0) (by decide) (fm_dec dtX2_read 2 rfl) ?_
  refine pv_istoren (pc := 3) (n := 3) 3 rfl (by decide) rfl (fm_dec dtX2_read 3 rfl) ?_
  dsimp only [List.set_cons_zero, List.set_cons_succ]
  refine pv_iconst (pc := 4) (v := 0) (by decide) (fm_dec dtX2_read 4 rfl) ?_
  refine pv_istore (pc := 5) (i := 4) (by decide) rfl (fm_dec dtX2_read 5 rfl) ?_
  dsimp only [List.set_cons_zero, List.set_cons_succ]
  have ht := hS.2.2.2.1
  refine xp_loop ht 700 M [] 0 0 0 0 0 0 _ _ _ hS hf hI (xdFr.refl M) ⟨by decide, by decide, by decide, by decide, by decide, by decide, by decide, by decide, fun l h => (by cases h)⟩ (pgL_fuel ht 700 [] (sk tx 0) (sp_le tB_1 ht (Nat.zero_le _)) (by have := ht.1; omega)) hok hbad
set_option maxRecDepth 20000 in
theorem c_xpage {M : fmM} {Q : fmR → fmM → Prop} {T : Nat → tX} {nn : Int32} (hI : scInv Tx invX M) (hT : txF M T) (hrf : ¬ txP nn 60 (M.1 1 1).toInt → Q (.inr fmIAE) (fmI M 0 16 (M.1 0 16 + 1))) (hok : ∀ (n : Nat) (M' : fmM) (ls : tC) (r : Int32), nn.toInt = (n : Int) → txP nn 60 (M.1 1 1).toInt → spPage (T n) n = .inr ls → r.toInt = (ls.length : Int) → xpEnd (opM M nn) M' ls → Q (.inl (some (.int r))) M') (hbad : ∀ (n k a : Nat) (M' : fmM) (r : Int32), nn.toInt = (n : Int) → txP nn 60 (M.1 1 1).toInt → spPage (T n) n = .inl (k, a) → r.toInt = (k : Int) - 10 → xdBad (opM M nn) M' k a → Q (.inl (some (.int r))) M') : pvGood Tx 41 qX10_page [.ref 0, .int nn] M Q := by
  refine pvGood_of (Nat.le_of_ble_eq_true rfl) ?_
  show pvEv Tx 41 qX10_page 0 [some (.ref 0), some (.int nn)] [] M Q
  refine pv_aloadn (pc := 0) (n := 0) 0 rfl rfl (fm_dec dtX10_page 0 rfl) ?_
  refine pv_iloadn (pc := 1) (n := 1) 1 rfl rfl (fm_dec dtX10_page 1 rfl) ?_
  refine pv_bipush (pc := 2) (v := 60) (by decide) (fm_dec dtX10_page 2 rfl) ?_
  refine pv_invV2 (k := 0) (d' := 1) (pc := 4) pcv_X10_108 (by decide) rfl (Nat.le_of_ble_eq_true rfl) (by decide) (fm_dec dtX10_page 3 rfl) ?_
  refine c_openT (fun h4 => ?_) (fun h4 => ?_)
  · refine pv_then0 ?_
    have h46 : nn.toInt ≤ 60 := h4.2.1
    obtain ⟨n, hn⟩ : ∃ n : Nat, nn.toInt = (n : Int) := ⟨nn.toInt.toNat, by have := h4.1; omega⟩
    have hI4 := inv_open (n := nn) hI h4.1 (by omega)
    have hT9 := hT n (by have := h4.2.2; omega)
    have hS := op_S hn hT9.1 hT9.2
    have hf4 : (opM M nn).1 1 4 = 0 := rfl
    refine pv_aloadn (pc := 7) (n := 0) 0 rfl rfl (fm_dec dtX10_page 4 rfl) ?_
    refine pv_getR (k := 0) (j := 4) (ci := 10) (pc := 8) 27 rfl (by decide) pfl_X10_36 (by decide) rfl (by decide) (fm_dec dtX10_page 5 rfl) ?_
    refine pv_aloadn (pc := 11) (n := 0) 0 rfl rfl (fm_dec dtX10_page 6 rfl) ?_
    refine pv_getR (k := 0) (j := 0) (ci := 10) (pc := 12) 1 rfl (by decide) pfl_X10_12 (by decide) rfl (by decide) (fm_dec dtX10_page 7 rfl) ?_
    refine pv_invV1 (k := 27) (d' := 3) (pc := 15) pcv_X10_161 (by decide) rfl (Nat.le_of_ble_eq_true rfl) (by decide) (fm_dec dtX10_page 8 rfl) ?_
    refine c_xpread hS hf4 hI4 (fun M15 ls e15 k15 => ?_) (fun Mb kb ab eb hB => ?_)  
    · refine pv_then1 ?_
      refine pv_if_ne (pc := 18) 32 (by decide) (fm_dec dtX10_page 9 rfl) (fun _ => ?_) (fun hc18 => by exfalso; revert hc18; decide)
      refine pv_aloadn (pc := 32) (n := 0) 0 rfl rfl (fm_dec dtX10_page 16 rfl) ?_
      refine pv_getR (k := 0) (j := 4) (ci := 10) (pc := 33) 27 rfl (by decide) pfl_X10_36 (by decide) rfl (by decide) (fm_dec dtX10_page 17 rfl) ?_
      refine pv_getI (k := 27) (j := 0) (ci := 2) (pc := 36) pfl_X10_162 (by decide) rfl (by decide) (fm_dec dtX10_page 18 rfl) ?_
      exact pv_ireturn (pc := 39) rfl (fm_dec dtX10_page 19 rfl) (hok n M15 ls _ hn h4 e15 k15.1 k15)
    · refine pv_then1 ?_
      refine pv_if_ne (pc := 18) 32 (by decide) (fm_dec dtX10_page 9 rfl) (fun hc18 => by exfalso; revert hc18; decide) (fun _ => ?_)
      refine pv_aloadn (pc := 21) (n := 0) 0 rfl rfl (fm_dec dtX10_page 10 rfl) ?_
      refine pv_getR (k := 0) (j := 0) (ci := 10) (pc := 22) 1 rfl (by decide) pfl_X10_12 (by decide) rfl (by decide) (fm_dec dtX10_page 11 rfl) ?_
      refine pv_getI (k := 1) (j := 4) (ci := 7) (pc := 25) pfl_X10_116 (by decide) rfl (by decide) (fm_dec dtX10_page 12 rfl) ?_
      refine pv_bipush (pc := 28) (v := 10) (by decide) (fm_dec dtX10_page 13 rfl) ?_
      refine pv_isub (pc := 30) (fm_dec dtX10_page 14 rfl) ?_
      exact pv_ireturn (pc := 31) rfl (fm_dec dtX10_page 15 rfl) (hbad n kb ab Mb _ hn h4 eb (law_r hB.1 (by have h9 := hB.f13; have h8 := hB.1; omega)) hB)
  · refine pv_thenX ?_
    exact hrf h4
