-- P 10gk
section
-- THE CHECKER: any instruction
section ScAll
variable {X : scX} {M0 : fmM} {ρ0 σ : List Int} {s : scS} {L : List (Option Value)} {st : List Value} {M : fmM} {pc : Nat} {succs : List (Nat × scS)} {ent : Bool}
theorem scq_i32 {n : Int} (h1 : -2147483648 ≤ n) (h2 : n ≤ 2147483647) : (Int32.ofInt n).toInt = n := by
  rw [Int32.toInt_ofInt]
  show n.bmod 4294967296 = n
  exact Int.bmod_eq_of_le (by omega) (by omega)
theorem scq_i8 {n : Int} (h1 : -128 ≤ n) (h2 : n ≤ 127) : ((Int8.ofInt n).toInt32).toInt = n := by
  rw [Int8.toInt_toInt32, Int8.toInt_ofInt]
  show n.bmod 256 = n
  exact Int.bmod_eq_of_le (by omega) (by omega)
theorem scq_i16 {n : Int} (h1 : -32768 ≤ n) (h2 : n ≤ 32767) : ((Int16.ofInt n).toInt32).toInt = n := by
  rw [Int16.toInt_toInt32, Int16.toInt_ofInt]
  show n.bmod 65536 = n
  exact Int.bmod_eq_of_le (by omega) (by omega)
theorem scq_01 {v : Int32} (h : ((0, 1) : scI).1 ≤ v.toInt ∧ v.toInt ≤ ((0, 1) : scI).2) : v = 0 ∨ v = 1 := by
  have h1 : (0 : Int) ≤ v.toInt := h.1
  have h2 : v.toInt ≤ 1 := h.2
  rcases (show v.toInt = 0 ∨ v.toInt = 1 by omega) with h | h
  · exact Or.inl (Int32.toInt_inj.mp (by rw [h]; rfl))
  · exact Or.inr (Int32.toInt_inj.mp (by rw [h]; rfl))
theorem scq_fin2 (n : Fin 2) : ((n.val : Int), (n.val : Int)).1 ≤ (Int64.ofNat n.val).toInt ∧ (Int64.ofNat n.val).toInt ≤ ((n.val : Int), (n.val : Int)).2 := by
  match n with
  | 0 => decide
  | 1 => decide
theorem scLmul_ok {e f : scI} {x z : Int64} (hx : e.1 ≤ x.toInt ∧ x.toInt ≤ e.2) (hz : f.1 ≤ z.toInt ∧ z.toInt ≤ f.2) : (scLmul e f).1 ≤ (x * z).toInt ∧ (x * z).toInt ≤ (scLmul e f).2 := by
  unfold scLmul
  split
  · rename_i hf
    simp only [Bool.and_eq_true, decide_eq_true_eq] at hf
    obtain ⟨⟨h1, h2⟩, h3⟩ := hf
    have l1 : e.1 * f.1 ≤ x.toInt * z.toInt := Int.mul_le_mul hx.1 hz.1 h2 (by omega)
    have l2 : x.toInt * z.toInt ≤ e.2 * f.2 := Int.mul_le_mul hx.2 hz.2 (by omega) (by omega)
    have l0 : 0 ≤ e.1 * f.1 := Int.mul_nonneg h1 h2
    have eq : (x * z).toInt = x.toInt * z.toInt := by
      rw [Int64.toInt_mul]
      exact Int.bmod_eq_of_le (by omega) (by omega)
    rw [eq]
    exact ⟨l1, l2⟩
  · exact scq_l _
theorem scOff_in {k dflt : Int} : ∀ (ps : List (Int × Int)), Op.lookupswitch.offset ps dflt k ∈ dflt :: ps.map (fun q => q.2)
  | [] => List.mem_cons_self
  | (a, o) :: r => by
    rw [Op.lookupswitch.offset_cons]
    split
    · exact List.mem_cons_of_mem _ List.mem_cons_self
    · rcases List.mem_cons.mp (scOff_in (k := k) (dflt := dflt) r) with h | h
      · rw [h]
        exact List.mem_cons_self
      · exact List.mem_cons_of_mem _ (List.mem_cons_of_mem _ h)
theorem scLook_ok {dflt : Int} {ps : Array (Int × Int)} {len : Nat} (hs : scHold X M0 s σ L st M) (hd : decode X.2.2.2.2.1.2.1 pc = .ok (.lookupswitch dflt ps, len)) (h : scLook pc s dflt ps = some succs) (kk : ∀ q ∈ succs, scGoes X M0 ρ0 σ q) : scGoal X M0 ρ0 pc L st M := by
  obtain ⟨g1, g2, g3, g4, g5, g6⟩ := id hs
  unfold scLook at h
  split at h
  · rename_i a S e
    have h3 := g3
    rw [e] at h3
    obtain ⟨x, st1, e1, hx, q1⟩ := scSk_i h3
    subst e1
    split at h
    · rename_i hc
      rw [Bool.and_eq_true] at hc
      cases h
      have hm := scOff_in (k := x.toInt) (dflt := dflt) ps.toList
      have h0 := List.all_eq_true.mp hc.2 _ hm
      simp only [decide_eq_true_eq] at h0
      refine pv_lookup ((pc : Int) + Op.lookupswitch.offset ps.toList dflt x.toInt).toNat hc.1 (by omega) hd ?_
      refine kk (_, (s.1, s.2.1, S, s.2.2.2)) (List.mem_map.mpr ⟨_, hm, rfl⟩) [] L st1 M (by rw [List.append_nil]; exact ⟨g1, g2, q1, g4, g5, g6⟩)
    · cases h
  · cases h
theorem scThr_ok {idx : Nat} (hρ : ρ0.length = X.2.2.2.2.2.2.1.length) (he : ent = true → ∃ τ, σ = ρ0 ++ τ) (hs : scHold X M0 s σ L st M) (hd : decode X.2.2.2.2.1.2.1 pc = .ok (.new idx, 3)) (h : scThr X ent pc s idx = some succs) : scGoal X M0 ρ0 pc L st M := by
  obtain ⟨g1, g2, g3, g4, g5, g6⟩ := id hs
  unfold scThr at h
  split at h
  · rename_i e
    have h3 := g3
    rw [e] at h3
    have e2 := scSk_0 h3
    subst e2
    split at h
    · rename_i hb
      simp only [Bool.and_eq_true, Nat.beq_eq, decide_eq_true_eq] at hb
      obtain ⟨⟨b1, b2⟩, b3⟩ := hb
      split at h
      · rename_i hc
        simp only [Bool.and_eq_true, Nat.beq_eq, decide_eq_true_eq] at hc
        obtain ⟨⟨⟨c1, c2⟩, c3⟩, c4⟩ := hc
        subst c1
        refine pv_thrI b1 hd b2 c2 c3 b3 (scOut_ok hρ he g1 g4 g5 g6 c4 (fun o h1 _ => ?_))
        unfold scRk
        rw [h1]
        exact (rfl : (Sum.inr fmIAE : fmR) = Sum.inr fmIAE)
      · split at h
        · rename_i hc
          simp only [Bool.and_eq_true, Nat.beq_eq, decide_eq_true_eq] at hc
          obtain ⟨⟨⟨c1, c2⟩, c3⟩, c4⟩ := hc
          subst c1
          refine pv_thrN b1 hd b2 c2 c3 b3 (scOut_ok hρ he g1 g4 g5 g6 c4 (fun o h1 _ => ?_))
          unfold scRk
          rw [h1]
          exact (rfl : (Sum.inr fmNSE : fmR) = Sum.inr fmNSE)
        · cases h
    · cases h
  · cases h
theorem scStp_ok {i : Instr} {len : Nat} (hX : scXk X) (hρ : ρ0.length = X.2.2.2.2.2.2.1.length) (he : ent = true → ∃ τ, σ = ρ0 ++ τ) (hs : scHold X M0 s σ L st M) (hd0 : decode X.2.2.2.2.1.2.1 pc = .ok (i, len)) (hlen : (pvSw i || Nat.beq len (scLen i)) = true) (h : scStp X ent pc i s = some succs) (kk : ∀ q ∈ succs, scGoes X M0 ρ0 σ q) : scGoal X M0 ρ0 pc L st M := by
  obtain ⟨g1, g2, g3, g4, g5, g6⟩ := id hs
  cases hsw : pvSw i with
  | true =>
    cases i with
    | tableswitch a b c d => exact scTab_ok hs hd0 h kk
    | lookupswitch a b => exact scLook_ok hs hd0 h kk
    | _ => cases hsw
  | false =>
  have hlen : len = scLen i := by
    rw [hsw, Bool.false_or, Nat.beq_eq] at hlen
    exact hlen
  subst hlen
  cases i with
  | iconst n =>
    simp only [scStp] at h
    split at h
    · rename_i hc
      simp only [Bool.and_eq_true, decide_eq_true_eq] at hc
      exact pv_iconst rfl hd0 (scVals_ok hs h kk ⟨⟨_, rfl, scq_i32 (by omega) (by omega)⟩, g3⟩)
    · cases h
  | bipush n =>
    simp only [scStp] at h
    split at h
    · rename_i hc
      simp only [Bool.and_eq_true, decide_eq_true_eq] at hc
      exact pv_bipush rfl hd0 (scVals_ok hs h kk ⟨⟨_, rfl, scq_i8 hc.1 hc.2⟩, g3⟩)
    · cases h
  | sipush n =>
    simp only [scStp] at h
    split at h
    · rename_i hc
      simp only [Bool.and_eq_true, decide_eq_true_eq] at hc
      exact pv_sipush rfl hd0 (scVals_ok hs h kk ⟨⟨_, rfl, scq_i16 hc.1 hc.2⟩, g3⟩)
    · cases h
  | lconst n => exact pv_lconst rfl hd0 (scVals_ok hs h kk ⟨⟨_, rfl, scq_fin2 n⟩, g3⟩)
  | iload_n n => exact scLoad_ok hs h kk (fun _ x hx k => pv_iload_n hx hd0 k) (fun e => by cases e) (fun e => by cases e)
  | iload n => exact scLoad_ok hs h kk (fun _ x hx k => pv_iload hx hd0 k) (fun e => by cases e) (fun e => by cases e)
  | lload_n n => exact scLoad_ok hs h kk (fun e => by cases e) (fun _ x hx k => pv_lload_n hx hd0 k) (fun e => by cases e)
  | lload n => exact scLoad_ok hs h kk (fun e => by cases e) (fun _ x hx k => pv_lload hx hd0 k) (fun e => by cases e)
  | aload_n n => exact scLoad_ok hs h kk (fun e => by cases e) (fun e => by cases e) (fun _ x hx k => pv_aload_n hx hd0 k)
  | aload n => exact scLoad_ok hs h kk (fun e => by cases e) (fun e => by cases e) (fun _ x hx k => pv_aload hx hd0 k)
  | istore_n n => exact scStor_ok hs h kk (fun _ hn x st' k => pv_stI_n hn hd0 k) (fun e => by cases e) (fun e => by cases e)
  | istore n => exact scStor_ok hs h kk (fun _ hn x st' k => pv_stI hn hd0 k) (fun e => by cases e) (fun e => by cases e)
  | lstore_n n => exact scStor_ok hs h kk (fun e => by cases e) (fun _ hn x st' k => pv_stJ_n hn hd0 k) (fun e => by cases e)
  | lstore n => exact scStor_ok hs h kk (fun e => by cases e) (fun _ hn x st' k => pv_stJ hn hd0 k) (fun e => by cases e)
  | astore_n n => exact scStor_ok hs h kk (fun e => by cases e) (fun e => by cases e) (fun _ hn x st' k => pv_stR_n hn hd0 k)
  | astore n => exact scStor_ok hs h kk (fun e => by cases e) (fun e => by cases e) (fun _ hn x st' k => pv_stR hn hd0 k)
  | iinc n v =>
    simp only [scStp] at h
    split at h
    · rename_i a e
      split at h
      · rename_i hc
        simp only [Bool.and_eq_true, decide_eq_true_eq, Nat.blt_eq] at hc
        have hl := g2.2 n
        rw [e] at hl
        cases hL : L.getD n none with
        | none => rw [hL] at hl; exact hl.elim
        | some w =>
          rw [hL] at hl
          obtain ⟨x, e1, hx⟩ := hl
          subst e1
          have hv : scEv σ (none, v) (Int32.ofInt v).toInt := scq_i32 (by omega) (by omega)
          obtain ⟨τ, q1, q2⟩ := scAdd_ok g1 hx hv
          refine pv_stinc hL hc.1.1.2 hd0 (scOne_ok h kk (τ := τ) ?_)
          exact ⟨q1, (g2.kill hc.1.1.1).mono.set n (v := some (.inl (scAdd s.1 a (none, v)).1)) (w := some (.int (x + Int32.ofInt v))) ⟨_, rfl, q2⟩, g3.mono, g4.mono, g5, g6⟩
      · cases h
    · cases h
  | iadd => exact scBin_ok hs h kk (fun ha hb => scAdd_ok g1 ha hb) (fun x z st => pv_iadd hd0)
  | isub => exact scBin_ok hs h kk (fun ha hb => scSubt_ok g1 ha hb) (fun x z st => pv_isub hd0)
  | imul => exact scBin_ok hs h kk (fun ha hb => scMul_ok g1 ha hb) (fun x z st => pv_imul hd0)
  | idiv =>
    simp only [scStp] at h
    split at h
    · rename_i b a S e
      split at h
      · rename_i hc
        simp only [decide_eq_true_eq] at hc
        have h3 := g3
        rw [e] at h3
        obtain ⟨z, st1, e1, hz, q1⟩ := scSk_i h3
        obtain ⟨x, st2, e2, hx, q2⟩ := scSk_i q1
        subst e2
        subst e1
        exact pv_idiv (sc_nz g1 hz hc) hd0 (scPush_ok hs h kk q2 (scDiv_ok g1 hx hz hc))
      · split at h
        · rename_i hc
          simp only [decide_eq_true_eq] at hc
          have h3 := g3
          rw [e] at h3
          obtain ⟨z, st1, e1, hz, q1⟩ := scSk_i h3
          obtain ⟨x, st2, e2, hx, q2⟩ := scSk_i q1
          subst e2
          subst e1
          have iz := hz.iv g1
          refine pv_idiv (fun e0 => ?_) hd0 (scPush_ok hs h kk q2 (scNk.top _ g1))
          rw [e0] at iz
          have z0 : (0 : Int32).toInt = 0 := by decide
          omega
        · cases h
    · cases h
  | irem =>
    simp only [scStp] at h
    split at h
    · rename_i b a S e
      split at h
      · rename_i hc
        simp only [decide_eq_true_eq] at hc
        have h3 := g3
        rw [e] at h3
        obtain ⟨z, st1, e1, hz, q1⟩ := scSk_i h3
        obtain ⟨x, st2, e2, hx, q2⟩ := scSk_i q1
        subst e2
        subst e1
        exact pv_irem (sc_nz g1 hz hc) hd0 (scPush_ok hs h kk q2 (scNk.top _ g1))
      · cases h
    · cases h
  | iand => exact scBin_ok hs h kk (fun ha hb => scAnd_ok g1 ha hb) (fun x z st => pv_iand hd0)
  | ior => exact scBinT_ok hs h kk (fun x z st => pv_ior hd0)
  | ixor => exact scBinT_ok hs h kk (fun x z st => pv_ixor hd0)
  | ishl => exact scBinT_ok (op := fun x z => x <<< (z &&& 31)) hs h kk (fun x z st => pv_ishl hd0)
  | ishr => exact scBinT_ok (op := fun x z => x >>> (z &&& 31)) hs h kk (fun x z st => pv_ishr hd0)
  | iushr => exact scBinT_ok (op := fun x z => (x.toUInt32 >>> (z.toUInt32 &&& Int32.toUInt32 31)).toInt32) hs h kk (fun x z st => pv_iushr hd0)
  | ineg =>
    simp only [scStp] at h
    split at h
    · rename_i a S e
      have h3 := g3
      rw [e] at h3
      obtain ⟨x, st1, e1, hx, q1⟩ := scSk_i h3
      subst e1
      refine pv_ineg hd0 (scPush_ok hs h kk q1 ?_)
      rw [show -x = 0 - x from (Int32.zero_sub x).symm]
      exact scSubt_ok g1 (show scEv σ (none, 0) (0 : Int32).toInt from rfl) hx
    · cases h
  | i2b =>
    simp only [scStp] at h
    split at h
    · rename_i a S e
      have h3 := g3
      rw [e] at h3
      obtain ⟨x, st1, e1, hx, q1⟩ := scSk_i h3
      subst e1
      exact pv_i2b hd0 (scPush_ok hs h kk q1 (scNk.top _ g1))
    · cases h
  | i2l =>
    simp only [scStp] at h
    split at h
    · rename_i a S e
      have h3 := g3
      rw [e] at h3
      obtain ⟨x, st1, e1, hx, q1⟩ := scSk_i h3
      subst e1
      refine pv_i2l hd0 (scVals_ok hs h kk ⟨⟨_, rfl, ?_⟩, q1⟩)
      rw [Int32.toInt_toInt64]
      exact hx.iv g1
    · cases h
  | l2i =>
    simp only [scStp] at h
    split at h
    · rename_i a S e
      have h3 := g3
      rw [e] at h3
      obtain ⟨x, st1, e1, hx, q1⟩ := scSk_j h3
      subst e1
      exact pv_l2i hd0 (scPush_ok hs h kk q1 (scNk.top _ g1))
    · cases h
  | ladd => exact scLong2_ok hs h kk (fun x z st => pv_ladd hd0)
  | lsub => exact scLong2_ok hs h kk (fun x z st => pv_lsub hd0)
  | lmul =>
    simp only [scStp] at h
    split at h
    · rename_i f e S es
      have h3 := g3
      rw [es] at h3
      obtain ⟨z, st1, e1, hz, q1⟩ := scSk_j h3
      obtain ⟨x, st2, e2, hx, q2⟩ := scSk_j q1
      subst e2
      subst e1
      exact pv_lmul hd0 (scVals_ok hs h kk ⟨⟨_, rfl, scLmul_ok hx hz⟩, q2⟩)
    · cases h
  | land => exact scLong2_ok hs h kk (fun x z st => pv_land hd0)
  | lor => exact scLong2_ok hs h kk (fun x z st => pv_lor hd0)
  | lxor => exact scLong2_ok hs h kk (fun x z st => pv_lxor hd0)
  | ldiv =>
    simp only [scStp] at h
    split at h
    · rename_i f a S e
      split at h
      · rename_i hc
        simp only [decide_eq_true_eq] at hc
        have h3 := g3
        rw [e] at h3
        obtain ⟨z, st1, e1, hz, q1⟩ := scSk_j h3
        obtain ⟨x, st2, e2, hx, q2⟩ := scSk_j q1
        subst e2
        subst e1
        refine pv_ldiv (fun e0 => ?_) hd0 (scVals_ok hs h kk ⟨⟨_, rfl, scq_l _⟩, q2⟩)
        rw [e0] at hz
        have z0 : (0 : Int64).toInt = 0 := by decide
        omega
      · cases h
    · cases h
  | lshl =>
    simp only [scStp] at h
    split at h
    · rename_i b a S e
      have h3 := g3
      rw [e] at h3
      obtain ⟨z, st1, e1, hz, q1⟩ := scSk_i h3
      obtain ⟨x, st2, e2, hx, q2⟩ := scSk_j q1
      subst e2
      subst e1
      exact pv_lshl hd0 (scVals_ok hs h kk ⟨⟨_, rfl, scq_l _⟩, q2⟩)
    · cases h
  | lshr =>
    simp only [scStp] at h
    split at h
    · rename_i b a S e
      have h3 := g3
      rw [e] at h3
      obtain ⟨z, st1, e1, hz, q1⟩ := scSk_i h3
      obtain ⟨x, st2, e2, hx, q2⟩ := scSk_j q1
      subst e2
      subst e1
      exact pv_lshr hd0 (scVals_ok hs h kk ⟨⟨_, rfl, scq_l _⟩, q2⟩)
    · cases h
  | lcmp =>
    simp only [scStp] at h
    split at h
    · rename_i b a S e
      have h3 := g3
      rw [e] at h3
      obtain ⟨z, st1, e1, hz, q1⟩ := scSk_j h3
      obtain ⟨x, st2, e2, hx, q2⟩ := scSk_j q1
      subst e2
      subst e1
      exact pv_lcmp hd0 (scPush_ok hs h kk q2 (scNk.top _ g1))
    · cases h
  | dup =>
    simp only [scStp] at h
    split at h
    · rename_i a S e
      have h3 := g3
      rw [e] at h3
      obtain ⟨x, st1, e1, hx, q1⟩ := scSk_i h3
      subst e1
      exact pv_dup rfl hd0 (scVals_ok hs h kk ⟨⟨x, rfl, hx⟩, ⟨x, rfl, hx⟩, q1⟩)
    · rename_i a S e
      have h3 := g3
      rw [e] at h3
      obtain ⟨x, st1, e1, hx, q1⟩ := scSk_q h3
      subst e1
      exact pv_dup rfl hd0 (scVals_ok hs h kk ⟨hx, hx, q1⟩)
    · cases h
  | dup2 =>
    simp only [scStp] at h
    split at h
    · rename_i a r S e
      have h3 := g3
      rw [e] at h3
      obtain ⟨x, st1, e1, hx, q1⟩ := scSk_i h3
      obtain ⟨w, st2, e2, hw, q2⟩ := scSk_q q1
      subst e2
      subst e1
      exact pv_dup2 rfl rfl hd0 (scVals_ok hs h kk ⟨⟨x, rfl, hx⟩, hw, ⟨x, rfl, hx⟩, hw, q2⟩)
    · cases h
  | pop =>
    simp only [scStp] at h
    split at h
    · rename_i a S e
      have h3 := g3
      rw [e] at h3
      obtain ⟨x, st1, e1, hx, q1⟩ := scSk_i h3
      subst e1
      exact pv_pop rfl hd0 (scVals_ok hs h kk q1)
    · rename_i a S e
      have h3 := g3
      rw [e] at h3
      obtain ⟨x, st1, e1, hx, q1⟩ := scSk_q h3
      subst e1
      exact pv_pop rfl hd0 (scVals_ok hs h kk q1)
    · cases h
  | goto off =>
    simp only [scStp] at h
    split at h
    · rename_i hc
      simp only [decide_eq_true_eq] at hc
      refine pv_goto ((pc : Int) + off).toNat (by omega) hd0 (scOne_ok h kk (τ := []) ?_)
      rw [List.append_nil]
      exact hs
    · cases h
  | ifCond c off =>
    simp only [scStp] at h
    split at h
    · rename_i a S e
      have h3 := g3
      rw [e] at h3
      obtain ⟨x, st1, e1, hx, q1⟩ := scSk_i h3
      subst e1
      obtain ⟨⟨tgt, ht, k1⟩, k2⟩ := sc_br hs h kk q1 hx (show scEv σ (none, 0) 0 from rfl)
      exact pv_ifc c ht hd0 k1 k2
    · cases h
  | if_icmp c off =>
    simp only [scStp] at h
    split at h
    · rename_i b a S e
      have h3 := g3
      rw [e] at h3
      obtain ⟨z, st1, e1, hz, q1⟩ := scSk_i h3
      obtain ⟨x, st2, e2, hx, q2⟩ := scSk_i q1
      subst e2
      subst e1
      obtain ⟨⟨tgt, ht, k1⟩, k2⟩ := sc_br hs h kk q2 hx hz
      exact pv_icmp c ht hd0 k1 k2
    · cases h
  | getfield idx => exact scGet_ok hX hs hd0 h kk
  | putfield idx => exact scPut_ok hX hs hd0 h kk
  | iaload => exact scAldI_ok hs hd0 h kk
  | laload => exact scAldJ_ok hs hd0 h kk
  | baload => exact scAldB_ok hs hd0 h kk
  | iastore => exact scAstI_ok hs hd0 h kk
  | lastore => exact scAstJ_ok hs hd0 h kk
  | bastore => exact scAstB_ok hs hd0 h kk
  | aaload => exact scAald_ok hs hd0 h kk
  | arraylength => exact scAlen_ok hs hd0 h kk
  | ldc idx => exact scLdcI_ok hX hs hd0 h kk
  | ldc_w idx =>
    simp only [scStp] at h
    split at h
    · rename_i j v hf
      exact pv_ldcw (scKc_of hX hf) hd0 (scVals_ok hs h kk ⟨⟨v, rfl, rfl⟩, g3⟩)
    · cases h
  | ldc2_w idx => exact scLdcJ_ok hX hs hd0 h kk
  | invokevirtual idx =>
    simp only [scStp] at h
    split at h
    · rename_i r hr
      cases h
      exact scCall_ok (kind := 0) hX hρ he hs hd0 (Or.inl rfl) kk (fun _ h => h) hr
    · exact scStr_ok hX hs hd0 h kk
  | invokestatic idx =>
    simp only [scStp, scStat] at h
    split at h
    · rename_i q hf
      obtain ⟨q1, q2⟩ := q
      have hm : pvMm X.2.2.2.2.1.1.cls idx = some (q1, q2) := by
        unfold pvMm
        rw [hX.1]
        exact hf
      exact scMmx_ok hm hs hd0 h kk
    · rename_i hf
      have hm : pvMm X.2.2.2.2.1.1.cls idx = none := by
        unfold pvMm
        rw [hX.1]
        exact hf
      split at h
      · rename_i hc
        have hc9 : pvCp X.2.2.2.2.1.1.cls idx = true := by
          unfold pvCp
          rw [hX.1]
          exact hc
        exact scCpy_ok hm hc9 hs hd0 h kk
      · rename_i hc
        have hc9 : pvCp X.2.2.2.2.1.1.cls idx = false := by
          unfold pvCp
          rw [hX.1]
          exact Bool.eq_false_iff.mpr hc
        split at h
        · rename_i hl
          have hl9 : ∃ i0 b, pvMl X.2.2.2.2.1.1.cls idx = some (i0, b) := by
            unfold pvMl
            rw [hX.1]
            cases hq : X.2.2.1.1.2.2.2.2.find? (fun q => Nat.beq q.1 idx) with
            | none =>
              rw [List.find?_eq_none] at hq
              obtain ⟨q, hq1, e⟩ := List.any_eq_true.mp hl
              exact absurd e (hq q hq1)
            | some q => exact ⟨q.1, q.2, rfl⟩
          obtain ⟨i0, b, hl9⟩ := hl9
          unfold scLl at h
          split at h
          · rename_i o2 o1 S e
            have h3 := g3
            rw [e] at h3
            obtain ⟨z, st1, e1, hz, q1⟩ := scSk_j h3
            obtain ⟨x, st2, e2, hx, q2⟩ := scSk_j q1
            subst e2
            subst e1
            split at h
            · rename_i hc2
              simp only [Bool.and_eq_true, Nat.ble_eq] at hc2
              exact pv_ml hm hc9 hl9 hc2.1 (by unfold pvCat; rw [scSk_cat q2]; exact hc2.2) hd0 (scVals_ok hs h kk ⟨⟨_, rfl, scq_l _⟩, q2⟩)
            · cases h
          · cases h
        · exact scCall_ok (kind := 1) hX hρ he hs hd0 (Or.inr rfl) kk (fun _ h => h) h
  | ireturn =>
    simp only [scStp] at h
    split at h
    · rename_i a e
      have h3 := g3
      rw [e] at h3
      obtain ⟨x, st1, e1, hx, q1⟩ := scSk_i h3
      have e2 := scSk_0 q1
      subst e2
      subst e1
      have hr : ∀ o : scO, o.1 = 1 → scSub (scIv s.1 a) o.2.1 = true → scRk o (.inl (some (.int x))) := by
        intro o h1 h2
        unfold scRk
        rw [h1]
        exact ⟨x, rfl, (scSub_ok h2 (hx.iv g1)).1, (scSub_ok h2 (hx.iv g1)).2⟩
      split at h
      · rename_i hy
        split at h
        · rename_i ho
          exact pv_ireturn hy hd0 (scOut_ok hρ he g1 g4 g5 g6 ho hr)
        · cases h
      · rename_i hy
        split at h
        · rename_i ho
          rw [Bool.and_eq_true] at ho
          have hb := scSub_ok ho.2 (hx.iv g1)
          exact pv_zreturn hy (scq_01 hb) hd0 (scOut_ok hρ he g1 g4 g5 g6 ho.1 hr)
        · cases h
      · cases h
    · cases h
  | lreturn =>
    simp only [scStp] at h
    split at h
    · rename_i a e
      have h3 := g3
      rw [e] at h3
      obtain ⟨x, st1, e1, hx, q1⟩ := scSk_j h3
      have e2 := scSk_0 q1
      subst e2
      subst e1
      split at h
      · rename_i hy
        split at h
        · rename_i ho
          refine pv_lreturn hy hd0 (scOut_ok hρ he g1 g4 g5 g6 ho (fun o h1 h2 => ?_))
          unfold scRk
          rw [h1]
          exact ⟨x, rfl, (scSub_ok h2 hx).1, (scSub_ok h2 hx).2⟩
        · cases h
      · cases h
    · cases h
  | return_ =>
    simp only [scStp] at h
    split at h
    · rename_i e
      have h3 := g3
      rw [e] at h3
      have e2 := scSk_0 h3
      subst e2
      split at h
      · rename_i hy
        split at h
        · rename_i ho
          refine pv_return hy hd0 (scOut_ok hρ he g1 g4 g5 g6 ho (fun o h1 _ => ?_))
          unfold scRk
          rw [h1]
          exact (rfl : (Sum.inl none : fmR) = Sum.inl none)
        · cases h
      · cases h
    · cases h
  | tableswitch a b c d => cases hsw
  | lookupswitch a b => cases hsw
  | new idx => exact scThr_ok hρ he hs hd0 h
  | _ => cases h
end ScAll
end
