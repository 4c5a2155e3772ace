-- P 03b
section
-- DECODING, byte after byte
theorem dk_at {c : ByteArray} {p : Nat} {b : UInt8} {r : List UInt8} (h : c.data.toList.drop p = b :: r) : ∃ hp : p < c.size, c[p] = b ∧ c.data.toList.drop (p + 1) = r := by
  have hl : p < c.data.toList.length := by
    rcases Nat.lt_or_ge p c.data.toList.length with h1 | h1
    · exact h1
    · rw [List.drop_eq_nil_of_le h1] at h
      cases h
  have h2 := List.drop_eq_getElem_cons hl
  rw [h] at h2
  have h3 := (List.cons.inj h2)
  exact ⟨hl, h3.1.symm, h3.2.symm⟩
theorem dk_u1 {c : ByteArray} {p : Nat} {b : UInt8} {r : List UInt8} (h : c.data.toList.drop p = b :: r) : (Reader.u1 : Decoder Nat) c p = .ok (b.toNat, p + 1) := by
  obtain ⟨hp, e, -⟩ := dk_at h
  show (dite (p < c.size) (fun h => ((do set (p + 1); Pure.pure c[p].toNat) : Decoder Nat)) (fun _ => throw (HasTruncated.truncated p))) c p = _
  rw [dif_pos hp, e]
  rfl
def dkW (pc : Nat) : { F : Nat → Decoder Instr // Decoder.instr pc = (Reader.u1 >>= F) } := ⟨_, rfl⟩
theorem dk_dec {c : ByteArray} {pc : Nat} {o : UInt8} {r : List UInt8} {i : Instr} {n : Nat} (h : c.data.toList.drop pc = o :: r) (hF : ((dkW pc).1 o.toNat) c (pc + 1) = .ok (i, pc + n)) : decode c pc = .ok (i, n) := by
  show Except.bind ((Decoder.instr pc) c pc) (fun x => Except.ok (x.1, x.2 - pc)) = _
  rw [(dkW pc).2]
  show Except.bind (Except.bind ((Reader.u1 : Decoder Nat) c pc) (fun x => (dkW pc).1 x.1 c x.2)) (fun x => Except.ok (x.1, x.2 - pc)) = _
  rw [dk_u1 h]
  show Except.bind ((dkW pc).1 o.toNat c (pc + 1)) (fun x => Except.ok (x.1, x.2 - pc)) = _
  rw [hF]
  show Except.ok (i, pc + n - pc) = _
  rw [Nat.add_sub_cancel_left]
def dkT0 : List (Nat × Instr) := [(42, .aload_n 0), (43, .aload_n 1), (44, .aload_n 2), (45, .aload_n 3), (2, .iconst (-1)), (3, .iconst 0), (4, .iconst 1), (5, .iconst 2), (6, .iconst 3), (7, .iconst 4), (8, .iconst 5), (26, .iload_n 0), (27, .iload_n 1), (28, .iload_n 2), (29, .iload_n 3), (96, .iadd), (46, .iaload), (172, .ireturn), (59, .istore_n 0), (60, .istore_n 1), (61, .istore_n 2), (62, .istore_n 3), (79, .iastore), (100, .isub), (126, .iand), (177, .return_), (9, .lconst 0), (10, .lconst 1), (133, .i2l), (173, .lreturn), (120, .ishl), (122, .ishr), (104, .imul), (105, .lmul), (97, .ladd), (101, .lsub), (148, .lcmp), (50, .aaload), (128, .ior), (89, .dup), (87, .pop), (191, .athrow), (30, .lload_n 0), (31, .lload_n 1), (32, .lload_n 2), (33, .lload_n 3), (63, .lstore_n 0), (64, .lstore_n 1), (65, .lstore_n 2), (66, .lstore_n 3), (47, .laload), (80, .lastore), (51, .baload), (84, .bastore), (92, .dup2), (90, .dup_x1), (108, .idiv), (109, .ldiv), (112, .irem), (113, .lrem), (116, .ineg), (121, .lshl), (123, .lshr), (124, .iushr), (127, .land), (129, .lor), (130, .ixor), (131, .lxor), (136, .l2i), (145, .i2b), (146, .i2c), (190, .arraylength), (83, .aastore), (176, .areturn), (75, .astore_n 0), (76, .astore_n 1), (77, .astore_n 2), (78, .astore_n 3), (1, .aconst_null)]
def dkT1 : List (Nat × (Nat → Instr)) := [(21, .iload), (54, .istore), (22, .lload), (55, .lstore), (25, .aload), (58, .astore), (18, .ldc)]
def dkT2 : List (Nat × (Nat → Instr)) := [(180, .getfield), (182, .invokevirtual), (181, .putfield), (184, .invokestatic), (183, .invokespecial), (20, .ldc2_w), (187, .new), (19, .ldc_w), (178, .getstatic), (189, .anewarray), (192, .checkcast)]
def dkS2 : List (Nat × (Int → Instr)) := [(167, .goto), (153, .ifCond .eq), (154, .ifCond .ne), (155, .ifCond .lt), (156, .ifCond .ge), (157, .ifCond .gt), (158, .ifCond .le), (159, .if_icmp .eq), (160, .if_icmp .ne), (161, .if_icmp .lt), (162, .if_icmp .ge), (163, .if_icmp .gt), (164, .if_icmp .le), (17, .sipush)]
theorem dkT0_ok : ∀ e ∈ dkT0, ∀ pc, (dkW pc).1 e.1 = (Pure.pure e.2 : Decoder Instr) := by
  unfold dkT0
  repeat' (first | (refine List.forall_mem_cons.mpr ⟨fun pc => rfl, ?_⟩) | exact fun e h => absurd h (List.not_mem_nil))
theorem dkT1_ok : ∀ e ∈ dkT1, ∀ pc, (dkW pc).1 e.1 = (do Pure.pure (e.2 (← Reader.u1))) := by
  unfold dkT1
  repeat' (first | (refine List.forall_mem_cons.mpr ⟨fun pc => rfl, ?_⟩) | exact fun e h => absurd h (List.not_mem_nil))
theorem dkT2_ok : ∀ e ∈ dkT2, ∀ pc, (dkW pc).1 e.1 = (do Pure.pure (e.2 (← Reader.u2))) := by
  unfold dkT2
  repeat' (first | (refine List.forall_mem_cons.mpr ⟨fun pc => rfl, ?_⟩) | exact fun e h => absurd h (List.not_mem_nil))
theorem dkS2_ok : ∀ e ∈ dkS2, ∀ pc, (dkW pc).1 e.1 = (do Pure.pure (e.2 (← Reader.s2))) := by
  unfold dkS2
  repeat' (first | (refine List.forall_mem_cons.mpr ⟨fun pc => rfl, ?_⟩) | exact fun e h => absurd h (List.not_mem_nil))
theorem dkB_ok : ∀ pc, (dkW pc).1 16 = (do Pure.pure (Instr.bipush (← Reader.s1))) := fun pc => rfl
theorem dkI_ok : ∀ pc, (dkW pc).1 132 = (do Pure.pure (Instr.iinc (← Reader.u1) (← Reader.s1))) := fun pc => rfl
def dkL {α : Type} (k : Nat) : List (Nat × α) → Option α
  | [] => none
  | e :: r => bif Nat.beq e.1 k then some e.2 else dkL k r
theorem dkL_ok {α : Type} {k : Nat} {x : α} : ∀ l : List (Nat × α), dkL k l = some x → (k, x) ∈ l := by
  intro l
  induction l with
  | nil => intro h; cases h
  | cons e r ih =>
    intro h
    unfold dkL at h
    cases e9 : Nat.beq e.1 k with
    | true =>
      rw [e9] at h
      have h : some e.2 = some x := h
      cases h
      rw [← Nat.eq_of_beq_eq_true e9]
      exact List.mem_cons_self
    | false =>
      rw [e9] at h
      exact List.mem_cons_of_mem _ (ih h)
/-- an instruction, and how long it is -/
def dkD3 (k a b : Nat) : Option (Instr × Nat) := match dkL k dkT2 with
  | some f => some (f (a * 256 + b), 3)
  | none => match dkL k dkS2 with
    | some f => some (f (Reader.signed 16 (a * 256 + b)), 3)
    | none => bif Nat.beq k 132 then some (.iinc a (Reader.signed 8 b), 3) else none
def dkD2 (k a : Nat) (r : List UInt8) : Option (Instr × Nat) := match dkL k dkT1 with
  | some f => some (f a, 2)
  | none => bif Nat.beq k 16 then some (.bipush (Reader.signed 8 a), 2) else match r with
    | [] => none
    | b :: _ => dkD3 k a b.toNat
def dkD1 (k : Nat) (r : List UInt8) : Option (Instr × Nat) := match dkL k dkT0 with
  | some i => some (i, 1)
  | none => match r with
    | [] => none
    | a :: r => dkD2 k a.toNat r
def dkD : List UInt8 → Option (Instr × Nat)
  | [] => none
  | o :: r => dkD1 o.toNat r
theorem dk_no {α : Type} {x : α} {P : Prop} (h : (none : Option α) = some x) : P := by cases h
theorem dkD_ok {c : ByteArray} {pc n : Nat} {L : List UInt8} {i : Instr} (h : c.data.toList.drop pc = L) (e : dkD L = some (i, n)) : decode c pc = .ok (i, n) := by
  cases L with
  | nil => exact dk_no e
  | cons o r =>
    obtain ⟨-, -, h1⟩ := dk_at h
    have e : dkD1 o.toNat r = some (i, n) := e
    unfold dkD1 at e
    cases hj : dkL o.toNat dkT0 with
    | some j =>
      rw [hj] at e
      have e : some (j, 1) = some (i, n) := e
      cases e
      exact dk_dec h (by rw [dkT0_ok _ (dkL_ok _ hj)]; rfl)
    | none =>
      rw [hj] at e
      cases r with
      | nil => exact dk_no e
      | cons a r =>
        have e : dkD2 o.toNat a.toNat r = some (i, n) := e
        obtain ⟨-, -, h2⟩ := dk_at h1
        unfold dkD2 at e
        cases hf : dkL o.toNat dkT1 with
        | some f =>
          rw [hf] at e
          have e : some (f a.toNat, 2) = some (i, n) := e
          cases e
          refine dk_dec h ?_
          rw [dkT1_ok _ (dkL_ok _ hf)]
          show Except.bind ((Reader.u1 : Decoder Nat) c (pc + 1)) (fun x => Except.ok (f x.1, x.2)) = _
          rw [dk_u1 h1]
          rfl
        | none =>
          rw [hf] at e
          cases e9 : Nat.beq o.toNat 16 with
          | true =>
            rw [e9] at e
            have e : some (Instr.bipush (Reader.signed 8 a.toNat), 2) = some (i, n) := e
            cases e
            refine dk_dec h ?_
            rw [Nat.eq_of_beq_eq_true e9, dkB_ok]
            show Except.bind (Except.bind ((Reader.u1 : Decoder Nat) c (pc + 1)) (fun x => Except.ok (Reader.signed 8 x.1, x.2))) (fun x => Except.ok (Instr.bipush x.1, x.2)) = _
            rw [dk_u1 h1]
            rfl
          | false =>
            rw [e9] at e
            cases r with
            | nil => exact dk_no e
            | cons b r =>
              have e : dkD3 o.toNat a.toNat b.toNat = some (i, n) := e
              unfold dkD3 at e
              cases hg : dkL o.toNat dkT2 with
              | some f =>
                rw [hg] at e
                have e : some (f (a.toNat * 256 + b.toNat), 3) = some (i, n) := e
                cases e
                refine dk_dec h ?_
                rw [dkT2_ok _ (dkL_ok _ hg)]
                show Except.bind (Except.bind ((Reader.u1 : Decoder Nat) c (pc + 1)) (fun x => Except.bind ((Reader.u1 : Decoder Nat) c x.2) (fun z => Except.ok (x.1 * 256 + z.1, z.2)))) (fun x => Except.ok (f x.1, x.2)) = _
                rw [dk_u1 h1]
                show Except.bind (Except.bind ((Reader.u1 : Decoder Nat) c (pc + 1 + 1)) (fun z => Except.ok (a.toNat * 256 + z.1, z.2))) (fun x => Except.ok (f x.1, x.2)) = _
                rw [dk_u1 h2]
                rfl
              | none =>
                rw [hg] at e
                cases hs : dkL o.toNat dkS2 with
                | some f =>
                  rw [hs] at e
                  have e : some (f (Reader.signed 16 (a.toNat * 256 + b.toNat)), 3) = some (i, n) := e
                  cases e
                  refine dk_dec h ?_
                  rw [dkS2_ok _ (dkL_ok _ hs)]
                  show Except.bind (Except.bind (Except.bind ((Reader.u1 : Decoder Nat) c (pc + 1)) (fun x => Except.bind ((Reader.u1 : Decoder Nat) c x.2) (fun z => Except.ok (x.1 * 256 + z.1, z.2)))) (fun x => Except.ok (Reader.signed 16 x.1, x.2))) (fun x => Except.ok (f x.1, x.2)) = _
                  rw [dk_u1 h1]
                  show Except.bind (Except.bind (Except.bind ((Reader.u1 : Decoder Nat) c (pc + 1 + 1)) (fun z => Except.ok (a.toNat * 256 + z.1, z.2))) (fun x => Except.ok (Reader.signed 16 x.1, x.2))) (fun x => Except.ok (f x.1, x.2)) = _
                  rw [dk_u1 h2]
                  rfl
                | none =>
                  rw [hs] at e
                  cases e8 : Nat.beq o.toNat 132 with
                  | false =>
                    rw [e8] at e
                    exact dk_no e
                  | true =>
                    rw [e8] at e
                    have e : some (Instr.iinc a.toNat (Reader.signed 8 b.toNat), 3) = some (i, n) := e
                    cases e
                    refine dk_dec h ?_
                    rw [Nat.eq_of_beq_eq_true e8, dkI_ok]
                    show Except.bind ((Reader.u1 : Decoder Nat) c (pc + 1)) (fun x => Except.bind (Except.bind ((Reader.u1 : Decoder Nat) c x.2) (fun z => Except.ok (Reader.signed 8 z.1, z.2))) (fun z => Except.ok (Instr.iinc x.1 z.1, z.2))) = _
                    rw [dk_u1 h1]
                    show Except.bind (Except.bind ((Reader.u1 : Decoder Nat) c (pc + 1 + 1)) (fun z => Except.ok (Reader.signed 8 z.1, z.2))) (fun z => Except.ok (Instr.iinc a.toNat z.1, z.2)) = _
                    rw [dk_u1 h2]
                    rfl
def dkK : ClassFile.Cond → Nat
  | .eq => 0
  | .ne => 1
  | .lt => 2
  | .ge => 3
  | .gt => 4
  | .le => 5
/-- how an instruction is written: its kind, its first byte, what follows -/
def dkE : Instr → Nat × Nat × Nat × Int
  | .aload_n n => (1, 42 + n.val, 0, 0)
  | .iload_n n => (1, 26 + n.val, 0, 0)
  | .istore_n n => (1, 59 + n.val, 0, 0)
  | .lload_n n => (1, 30 + n.val, 0, 0)
  | .lstore_n n => (1, 63 + n.val, 0, 0)
  | .astore_n n => (1, 75 + n.val, 0, 0)
  | .lconst n => (1, 9 + n.val, 0, 0)
  | .iconst v => bif decide (-1 ≤ v) && decide (v ≤ 5) then (1, (v + 3).toNat, 0, 0) else (0, 0, 0, 0)
  | .iadd => (1, 96, 0, 0)
  | .iaload => (1, 46, 0, 0)
  | .ireturn => (1, 172, 0, 0)
  | .iastore => (1, 79, 0, 0)
  | .isub => (1, 100, 0, 0)
  | .iand => (1, 126, 0, 0)
  | .return_ => (1, 177, 0, 0)
  | .i2l => (1, 133, 0, 0)
  | .lreturn => (1, 173, 0, 0)
  | .ishl => (1, 120, 0, 0)
  | .ishr => (1, 122, 0, 0)
  | .imul => (1, 104, 0, 0)
  | .lmul => (1, 105, 0, 0)
  | .ladd => (1, 97, 0, 0)
  | .lsub => (1, 101, 0, 0)
  | .lcmp => (1, 148, 0, 0)
  | .aaload => (1, 50, 0, 0)
  | .ior => (1, 128, 0, 0)
  | .dup => (1, 89, 0, 0)
  | .pop => (1, 87, 0, 0)
  | .athrow => (1, 191, 0, 0)
  | .laload => (1, 47, 0, 0)
  | .lastore => (1, 80, 0, 0)
  | .baload => (1, 51, 0, 0)
  | .bastore => (1, 84, 0, 0)
  | .dup2 => (1, 92, 0, 0)
  | .dup_x1 => (1, 90, 0, 0)
  | .idiv => (1, 108, 0, 0)
  | .ldiv => (1, 109, 0, 0)
  | .irem => (1, 112, 0, 0)
  | .lrem => (1, 113, 0, 0)
  | .ineg => (1, 116, 0, 0)
  | .lshl => (1, 121, 0, 0)
  | .lshr => (1, 123, 0, 0)
  | .iushr => (1, 124, 0, 0)
  | .land => (1, 127, 0, 0)
  | .lor => (1, 129, 0, 0)
  | .ixor => (1, 130, 0, 0)
  | .lxor => (1, 131, 0, 0)
  | .l2i => (1, 136, 0, 0)
  | .i2b => (1, 145, 0, 0)
  | .i2c => (1, 146, 0, 0)
  | .arraylength => (1, 190, 0, 0)
  | .aastore => (1, 83, 0, 0)
  | .areturn => (1, 176, 0, 0)
  | .aconst_null => (1, 1, 0, 0)
  | .iload u => (2, 21, u, 0)
  | .istore u => (2, 54, u, 0)
  | .lload u => (2, 22, u, 0)
  | .lstore u => (2, 55, u, 0)
  | .aload u => (2, 25, u, 0)
  | .astore u => (2, 58, u, 0)
  | .ldc u => (2, 18, u, 0)
  | .getfield u => (3, 180, u, 0)
  | .invokevirtual u => (3, 182, u, 0)
  | .putfield u => (3, 181, u, 0)
  | .invokestatic u => (3, 184, u, 0)
  | .invokespecial u => (3, 183, u, 0)
  | .ldc2_w u => (3, 20, u, 0)
  | .new u => (3, 187, u, 0)
  | .ldc_w u => (3, 19, u, 0)
  | .getstatic u => (3, 178, u, 0)
  | .anewarray u => (3, 189, u, 0)
  | .checkcast u => (3, 192, u, 0)
  | .goto s => (4, 167, 0, s)
  | .ifCond c s => (4, 153 + dkK c, 0, s)
  | .if_icmp c s => (4, 159 + dkK c, 0, s)
  | .sipush s => (4, 17, 0, s)
  | .bipush s => (5, 16, 0, s)
  | .iinc u s => (6, 132, u, s)
  | _ => (0, 0, 0, 0)
def dkG (i : Instr) (e : Nat × Nat × Nat × Int) : Prop := match e.1 with
  | 0 => True
  | 1 => dkL e.2.1 dkT0 = some i
  | 2 => dkL e.2.1 dkT0 = none ∧ ∃ f, dkL e.2.1 dkT1 = some f ∧ f e.2.2.1 = i
  | 3 => dkL e.2.1 dkT0 = none ∧ dkL e.2.1 dkT1 = none ∧ Nat.beq e.2.1 16 = false ∧ ∃ f, dkL e.2.1 dkT2 = some f ∧ f e.2.2.1 = i
  | 4 => dkL e.2.1 dkT0 = none ∧ dkL e.2.1 dkT1 = none ∧ Nat.beq e.2.1 16 = false ∧ dkL e.2.1 dkT2 = none ∧ ∃ f, dkL e.2.1 dkS2 = some f ∧ f e.2.2.2 = i
  | 5 => dkL e.2.1 dkT0 = none ∧ dkL e.2.1 dkT1 = none ∧ Nat.beq e.2.1 16 = true ∧ Instr.bipush e.2.2.2 = i
  | _ => dkL e.2.1 dkT0 = none ∧ dkL e.2.1 dkT1 = none ∧ Nat.beq e.2.1 16 = false ∧ dkL e.2.1 dkT2 = none ∧ dkL e.2.1 dkS2 = none ∧ Nat.beq e.2.1 132 = true ∧ Instr.iinc e.2.2.1 e.2.2.2 = i
theorem dkG_ok : ∀ i : Instr, dkG i (dkE i) := by
  intro i
  cases i with
  | iconst v =>
    show dkG (.iconst v) (bif decide (-1 ≤ v) && decide (v ≤ 5) then (1, (v + 3).toNat, 0, 0) else (0, 0, 0, 0))
    cases h : (decide (-1 ≤ v) && decide (v ≤ 5)) with
    | false => exact trivial
    | true =>
      rw [Bool.and_eq_true, decide_eq_true_eq, decide_eq_true_eq] at h
      rcases (show v = -1 ∨ v = 0 ∨ v = 1 ∨ v = 2 ∨ v = 3 ∨ v = 4 ∨ v = 5 by omega) with rfl | rfl | rfl | rfl | rfl | rfl | rfl <;> rfl
  | lconst n => match n with
    | 0 => rfl
    | 1 => rfl
  | aload_n n => match n with
    | 0 => rfl
    | 1 => rfl
    | 2 => rfl
    | 3 => rfl
  | iload_n n => match n with
    | 0 => rfl
    | 1 => rfl
    | 2 => rfl
    | 3 => rfl
  | istore_n n => match n with
    | 0 => rfl
    | 1 => rfl
    | 2 => rfl
    | 3 => rfl
  | lload_n n => match n with
    | 0 => rfl
    | 1 => rfl
    | 2 => rfl
    | 3 => rfl
  | lstore_n n => match n with
    | 0 => rfl
    | 1 => rfl
    | 2 => rfl
    | 3 => rfl
  | astore_n n => match n with
    | 0 => rfl
    | 1 => rfl
    | 2 => rfl
    | 3 => rfl
  | ifCond c s => cases c <;> exact ⟨rfl, rfl, rfl, rfl, _, rfl, rfl⟩
  | if_icmp c s => cases c <;> exact ⟨rfl, rfl, rfl, rfl, _, rfl, rfl⟩
  | goto s => exact ⟨rfl, rfl, rfl, rfl, _, rfl, rfl⟩
  | sipush s => exact ⟨rfl, rfl, rfl, rfl, _, rfl, rfl⟩
  | bipush s => exact ⟨rfl, rfl, rfl, rfl⟩
  | iinc u s => exact ⟨rfl, rfl, rfl, rfl, rfl, rfl, rfl⟩
  | iload u => exact ⟨rfl, _, rfl, rfl⟩
  | istore u => exact ⟨rfl, _, rfl, rfl⟩
  | lload u => exact ⟨rfl, _, rfl, rfl⟩
  | lstore u => exact ⟨rfl, _, rfl, rfl⟩
  | aload u => exact ⟨rfl, _, rfl, rfl⟩
  | astore u => exact ⟨rfl, _, rfl, rfl⟩
  | ldc u => exact ⟨rfl, _, rfl, rfl⟩
  | getfield u => exact ⟨rfl, rfl, rfl, _, rfl, rfl⟩
  | invokevirtual u => exact ⟨rfl, rfl, rfl, _, rfl, rfl⟩
  | putfield u => exact ⟨rfl, rfl, rfl, _, rfl, rfl⟩
  | invokestatic u => exact ⟨rfl, rfl, rfl, _, rfl, rfl⟩
  | invokespecial u => exact ⟨rfl, rfl, rfl, _, rfl, rfl⟩
  | ldc2_w u => exact ⟨rfl, rfl, rfl, _, rfl, rfl⟩
  | new u => exact ⟨rfl, rfl, rfl, _, rfl, rfl⟩
  | ldc_w u => exact ⟨rfl, rfl, rfl, _, rfl, rfl⟩
  | getstatic u => exact ⟨rfl, rfl, rfl, _, rfl, rfl⟩
  | anewarray u => exact ⟨rfl, rfl, rfl, _, rfl, rfl⟩
  | checkcast u => exact ⟨rfl, rfl, rfl, _, rfl, rfl⟩
  | iadd => exact rfl
  | iaload => exact rfl
  | ireturn => exact rfl
  | iastore => exact rfl
  | isub => exact rfl
  | iand => exact rfl
  | return_ => exact rfl
  | i2l => exact rfl
  | lreturn => exact rfl
  | ishl => exact rfl
  | ishr => exact rfl
  | imul => exact rfl
  | lmul => exact rfl
  | ladd => exact rfl
  | lsub => exact rfl
  | lcmp => exact rfl
  | aaload => exact rfl
  | ior => exact rfl
  | dup => exact rfl
  | pop => exact rfl
  | athrow => exact rfl
  | laload => exact rfl
  | lastore => exact rfl
  | baload => exact rfl
  | bastore => exact rfl
  | dup2 => exact rfl
  | dup_x1 => exact rfl
  | idiv => exact rfl
  | ldiv => exact rfl
  | irem => exact rfl
  | lrem => exact rfl
  | ineg => exact rfl
  | lshl => exact rfl
  | lshr => exact rfl
  | iushr => exact rfl
  | land => exact rfl
  | lor => exact rfl
  | ixor => exact rfl
  | lxor => exact rfl
  | l2i => exact rfl
  | i2b => exact rfl
  | i2c => exact rfl
  | arraylength => exact rfl
  | aastore => exact rfl
  | areturn => exact rfl
  | aconst_null => exact rfl
  | _ => exact trivial
/-- do the bytes begin so? then how long it is -/
def dkC (e : Nat × Nat × Nat × Int) (L : List UInt8) : Option Nat := match L with
  | [] => none
  | o :: r => bif Nat.beq o.toNat e.2.1 then (match e.1 with
    | 0 => none
    | 1 => some 1
    | 2 => match r with
      | [] => none
      | a :: _ => bif Nat.beq a.toNat e.2.2.1 then some 2 else none
    | 3 => match r with
      | a :: b :: _ => bif Nat.beq (a.toNat * 256 + b.toNat) e.2.2.1 then some 3 else none
      | _ => none
    | 4 => match r with
      | a :: b :: _ => bif decide (Reader.signed 16 (a.toNat * 256 + b.toNat) = e.2.2.2) then some 3 else none
      | _ => none
    | 5 => match r with
      | [] => none
      | a :: _ => bif decide (Reader.signed 8 a.toNat = e.2.2.2) then some 2 else none
    | _ => match r with
      | a :: b :: _ => bif Nat.beq a.toNat e.2.2.1 && decide (Reader.signed 8 b.toNat = e.2.2.2) then some 3 else none
      | _ => none) else none
theorem dk_bif {b : Bool} {n m : Nat} (h : (bif b then some n else none) = some m) : b = true ∧ n = m := by
  cases b with
  | false => cases h
  | true => exact ⟨rfl, Option.some.inj h⟩
theorem dkC_ok {i : Instr} {e : Nat × Nat × Nat × Int} {L : List UInt8} {n : Nat} (g : dkG i e) (h : dkC e L = some n) : dkD L = some (i, n) := by
  cases L with
  | nil => exact dk_no h
  | cons o r =>
    obtain ⟨k, oc, u, s⟩ := e
    unfold dkC at h
    cases ho : Nat.beq o.toNat oc with
    | false =>
      dsimp only at h
      rw [ho] at h
      exact dk_no h
    | true =>
      dsimp only at h
      rw [ho] at h
      rw [← Nat.eq_of_beq_eq_true ho] at g
      show dkD1 o.toNat r = _
      unfold dkD1
      rcases k with _ | _ | _ | _ | _ | _ | k
      · exact dk_no h
      · have h : some 1 = some n := h
        cases h
        have g : dkL o.toNat dkT0 = some i := g
        rw [g]
      · obtain ⟨g0, f, g1, g2⟩ := (g : dkL o.toNat dkT0 = none ∧ ∃ f, dkL o.toNat dkT1 = some f ∧ f u = i)
        cases r with
        | nil => exact dk_no h
        | cons a r =>
          obtain ⟨h1, rfl⟩ := dk_bif (show (bif Nat.beq a.toNat u then some 2 else none) = some n from h)
          rw [g0]
          show dkD2 o.toNat a.toNat r = _
          unfold dkD2
          rw [g1, Nat.eq_of_beq_eq_true h1]
          show some (f u, 2) = _
          rw [show f u = i from g2]
      · obtain ⟨g0, g1, g16, f, g2, g3⟩ := (g : dkL o.toNat dkT0 = none ∧ dkL o.toNat dkT1 = none ∧ Nat.beq o.toNat 16 = false ∧ ∃ f, dkL o.toNat dkT2 = some f ∧ f u = i)
        rcases r with _ | ⟨a, _ | ⟨b, r⟩⟩
        · exact dk_no h
        · exact dk_no h
        · obtain ⟨h1, rfl⟩ := dk_bif (show (bif Nat.beq (a.toNat * 256 + b.toNat) u then some 3 else none) = some n from h)
          rw [g0]
          show dkD2 o.toNat a.toNat (b :: r) = _
          unfold dkD2
          rw [g1, g16]
          show dkD3 o.toNat a.toNat b.toNat = _
          unfold dkD3
          rw [g2, Nat.eq_of_beq_eq_true h1]
          show some (f u, 3) = _
          rw [show f u = i from g3]
      · obtain ⟨g0, g1, g16, g2, f, g3, g4⟩ := (g : dkL o.toNat dkT0 = none ∧ dkL o.toNat dkT1 = none ∧ Nat.beq o.toNat 16 = false ∧ dkL o.toNat dkT2 = none ∧ ∃ f, dkL o.toNat dkS2 = some f ∧ f s = i)
        rcases r with _ | ⟨a, _ | ⟨b, r⟩⟩
        · exact dk_no h
        · exact dk_no h
        · obtain ⟨h1, rfl⟩ := dk_bif (show (bif decide (Reader.signed 16 (a.toNat * 256 + b.toNat) = s) then some 3 else none) = some n from h)
          rw [g0]
          show dkD2 o.toNat a.toNat (b :: r) = _
          unfold dkD2
          rw [g1, g16]
          show dkD3 o.toNat a.toNat b.toNat = _
          unfold dkD3
          rw [g2, g3, of_decide_eq_true h1]
          show some (f s, 3) = _
          rw [show f s = i from g4]
      · obtain ⟨g0, g1, g16, g2⟩ := (g : dkL o.toNat dkT0 = none ∧ dkL o.toNat dkT1 = none ∧ Nat.beq o.toNat 16 = true ∧ Instr.bipush s = i)
        cases r with
        | nil => exact dk_no h
        | cons a r =>
          obtain ⟨h1, rfl⟩ := dk_bif (show (bif decide (Reader.signed 8 a.toNat = s) then some 2 else none) = some n from h)
          rw [g0]
          show dkD2 o.toNat a.toNat r = _
          unfold dkD2
          rw [g1, g16, of_decide_eq_true h1, ← g2]
          rfl
      · obtain ⟨g0, g1, g16, g2, g3, g4, g5⟩ := (g : dkL o.toNat dkT0 = none ∧ dkL o.toNat dkT1 = none ∧ Nat.beq o.toNat 16 = false ∧ dkL o.toNat dkT2 = none ∧ dkL o.toNat dkS2 = none ∧ Nat.beq o.toNat 132 = true ∧ Instr.iinc u s = i)
        rcases r with _ | ⟨a, _ | ⟨b, r⟩⟩
        · exact dk_no h
        · exact dk_no h
        · obtain ⟨h1, rfl⟩ := dk_bif (show (bif Nat.beq a.toNat u && decide (Reader.signed 8 b.toNat = s) then some 3 else none) = some n from h)
          rw [Bool.and_eq_true] at h1
          rw [g0]
          show dkD2 o.toNat a.toNat (b :: r) = _
          unfold dkD2
          rw [g1, g16]
          show dkD3 o.toNat a.toNat b.toNat = _
          unfold dkD3
          rw [g2, g3, g4, of_decide_eq_true h1.2, Nat.eq_of_beq_eq_true h1.1, ← g5]
          rfl
/-- along the bytes; the instructions ex are shown apart -/
def dkRun (ex : List (Nat × Instr × Nat)) : List UInt8 → Nat → List (Nat × Instr × Nat) → Bool
  | _, _, [] => true
  | L, pc, q :: t => match dkC (dkE q.2.1) L with
    | none => Nat.beq q.1 pc && ex.any (fun x => Nat.beq x.1 pc && decide (x = q)) && dkRun ex (L.drop q.2.2) (pc + q.2.2) t
    | some n => Nat.beq q.1 pc && Nat.beq q.2.2 n && dkRun ex (L.drop n) (pc + n) t
theorem dk_run {c : ByteArray} {ex : List (Nat × Instr × Nat)} (hx : ∀ q ∈ ex, decode c q.1 = .ok (q.2.1, q.2.2)) : ∀ (l : List (Nat × Instr × Nat)) (L : List UInt8) (pc : Nat), c.data.toList.drop pc = L → dkRun ex L pc l = true → ∀ q ∈ l, decode c q.1 = .ok (q.2.1, q.2.2) := by
  intro l
  induction l with
  | nil => intro L pc _ _ q hq; cases hq
  | cons q0 t ih =>
    intro L pc h hr q hq
    unfold dkRun at hr
    split at hr
    · simp only [Bool.and_eq_true] at hr
      obtain ⟨⟨h1, h2⟩, h4⟩ := hr
      rcases List.mem_cons.mp hq with rfl | hq
      · obtain ⟨x, hm, h5⟩ := List.any_eq_true.mp h2
        rw [Bool.and_eq_true] at h5
        have h6 := hx x hm
        rw [of_decide_eq_true h5.2] at h6
        exact h6
      · exact ih _ _ (by rw [← h, List.drop_drop, Nat.add_comm]) h4 q hq
    · rename_i n hd
      simp only [Bool.and_eq_true] at hr
      obtain ⟨⟨h1, h2⟩, h4⟩ := hr
      rcases List.mem_cons.mp hq with rfl | hq
      · rw [Nat.eq_of_beq_eq_true h1, Nat.eq_of_beq_eq_true h2]
        exact dkD_ok h (dkC_ok (dkG_ok _) hd)
      · exact ih _ _ (by rw [← h, List.drop_drop, Nat.add_comm]) h4 q hq
theorem dk_fm {c : ByteArray} {l : List (Nat × Instr × Nat)} (pc : Nat) (h : dkRun [] (c.data.toList.drop pc) pc l = true) : fmDec c l = true := List.all_eq_true.mpr (fun q hq => decide_eq_true (dk_run (fun _ h => absurd h List.not_mem_nil) l _ pc rfl h q hq))
theorem dk_fx {c : ByteArray} {l : List (Nat × Instr × Nat)} (pc : Nat) (ex : List (Nat × Instr × Nat)) (hx : fmDec c ex = true) (h : dkRun ex (c.data.toList.drop pc) pc l = true) : fmDec c l = true := List.all_eq_true.mpr (fun q hq => decide_eq_true (dk_run (fun q hq => of_decide_eq_true (List.all_eq_true.mp hx q hq)) l _ pc rfl h q hq))
theorem dtX0_init : fmDec cX0_init dlX0_init = true := dk_fx 0 [(7, .newarray .long, 2)] (by decide +kernel) (by decide +kernel)
theorem dtX0_yearsWhen : fmDec cX0_yearsWhen dlX0_yearsWhen = true := dk_fm 0 (by decide +kernel)
theorem dtX0_signerDead : fmDec cX0_signerDead dlX0_signerDead = true := dk_fm 0 (by decide +kernel)
theorem dtX0_wrongWhen : fmDec cX0_wrongWhen dlX0_wrongWhen = true := dk_fm 0 (by decide +kernel)
theorem dtX0_costWhen : fmDec cX0_costWhen dlX0_costWhen = true := dk_fm 0 (by decide +kernel)
theorem dtX0_riskWhen : fmDec cX0_riskWhen dlX0_riskWhen = true := dk_fm 0 (by decide +kernel)
theorem dtX0_riskAtAge : fmDec cX0_riskAtAge dlX0_riskAtAge = true := dk_fm 0 (by decide +kernel)
theorem dtX0_hoursFor : fmDec cX0_hoursFor dlX0_hoursFor = true := dk_fm 0 (by decide +kernel)
theorem dtX0_canBePut : fmDec cX0_canBePut dlX0_canBePut = true := dk_fm 0 (by decide +kernel)
theorem dtX0_savedRisk : fmDec cX0_savedRisk dlX0_savedRisk = true := dk_fm 0 (by decide +kernel)
theorem dtX0_firstOfAll : fmDec cX0_firstOfAll dlX0_firstOfAll = true := dk_fm 0 (by decide +kernel)
theorem dtX0_firstOf : fmDec cX0_firstOf dlX0_firstOf = true := dk_fm 0 (by decide +kernel)
theorem dtX0_putPiece : fmDec cX0_putPiece dlX0_putPiece = true := dk_fm 0 (by decide +kernel)
theorem dtX0_letDie : fmDec cX0_letDie dlX0_letDie = true := dk_fm 0 (by decide +kernel)
theorem dtX0_passWeek : fmDec cX0_passWeek dlX0_passWeek = true := dk_fm 0 (by decide +kernel)
theorem dtX0_lossAhead : fmDec cX0_lossAhead dlX0_lossAhead = true := dk_fm 0 (by decide +kernel)
theorem dtX1_init : fmDec cX1_init dlX1_init = true := dk_fx 0 [(8, .newarray .int, 2), (17, .newarray .int, 2), (25, .newarray .int, 2)] (by decide +kernel) (by decide +kernel)
theorem dtX1_clear : fmDec cX1_clear dlX1_clear = true := dk_fm 0 (by decide +kernel)
theorem dtX1_read : fmDec cX1_read dlX1_read = true := dk_fm 0 (by decide +kernel)
theorem dtX1_readSum : fmDec cX1_readSum dlX1_readSum = true := dk_fm 0 (by decide +kernel)
theorem dtX1_readProduct : fmDec cX1_readProduct dlX1_readProduct = true := dk_fm 0 (by decide +kernel)
theorem dtX1_readUnit : fmDec cX1_readUnit dlX1_readUnit = true := dk_fm 0 (by decide +kernel)
theorem dtX1_readTwo : fmDec cX1_readTwo dlX1_readTwo = true := dk_fm 0 (by decide +kernel)
theorem dtX1_emit : fmDec cX1_emit dlX1_emit = true := dk_fm 0 (by decide +kernel)
theorem dtX1_outcome : fmDec cX1_outcome dlX1_outcome = true := dk_fx 0 [(82, .tableswitch 91 (-5) (-1) #[79, 67, 56, 45, 34], 34)] (by decide +kernel) (by decide +kernel)
theorem dtX1_joined : fmDec cX1_joined dlX1_joined = true := dk_fx 0 [(1, .tableswitch 69 (-10) (-6) #[65, 61, 57, 46, 35], 35)] (by decide +kernel) (by decide +kernel)
theorem dtX2_init : fmDec cX2_init dlX2_init = true := dk_fm 0 (by decide +kernel)
theorem dtX2_clear : fmDec cX2_clear dlX2_clear = true := dk_fm 0 (by decide +kernel)
theorem dtX2_read : fmDec cX2_read dlX2_read = true := dk_fm 0 (by decide +kernel)
theorem dtX2_fits : fmDec cX2_fits dlX2_fits = true := dk_fm 0 (by decide +kernel)
theorem dtX3_init : fmDec cX3_init dlX3_init = true := dk_fx 0 [(8, .newarray .long, 2), (16, .newarray .long, 2), (24, .newarray .int, 2), (31, .newarray .int, 2)] (by decide +kernel) (by decide +kernel)
theorem dtX3_forget : fmDec cX3_forget dlX3_forget = true := dk_fm 0 (by decide +kernel)
theorem dtX3_leastLoss : fmDec cX3_leastLoss dlX3_leastLoss = true := dk_fm 0 (by decide +kernel)
theorem dtX3_writtenIn : fmDec cX3_writtenIn dlX3_writtenIn = true := dk_fm 0 (by decide +kernel)
theorem dtX3_keyShift : fmDec cX3_keyShift dlX3_keyShift = true := dk_fm 0 (by decide +kernel)
theorem dtX3_prepare : fmDec cX3_prepare dlX3_prepare = true := dk_fm 0 (by decide +kernel)
theorem dtX3_cellOf : fmDec cX3_cellOf dlX3_cellOf = true := dk_fm 0 (by decide +kernel)
theorem dtX3_weighWays : fmDec cX3_weighWays dlX3_weighWays = true := dk_fm 0 (by decide +kernel)
theorem dtX3_hoursAtAge : fmDec cX3_hoursAtAge dlX3_hoursAtAge = true := dk_fm 0 (by decide +kernel)
theorem dtX3_addLife : fmDec cX3_addLife dlX3_addLife = true := dk_fm 0 (by decide +kernel)
theorem dtX3_leastOf : fmDec cX3_leastOf dlX3_leastOf = true := dk_fm 0 (by decide +kernel)
theorem dtX4_init : fmDec cX4_init dlX4_init = true := dk_fx 0 [(18, .newarray .long, 2)] (by decide +kernel) (by decide +kernel)
theorem dtX4_play : fmDec cX4_play dlX4_play = true := dk_fm 0 (by decide +kernel)
theorem dtX4_drawOf64 : fmDec cX4_drawOf64 dlX4_drawOf64 = true := dk_fm 0 (by decide +kernel)
theorem dtX4_drawDeaths : fmDec cX4_drawDeaths dlX4_drawDeaths = true := dk_fm 0 (by decide +kernel)
theorem dtX4_putFirsts : fmDec cX4_putFirsts dlX4_putFirsts = true := dk_fm 0 (by decide +kernel)
theorem dtX5_init : fmDec cX5_init dlX5_init = true := dk_fm 0 (by decide +kernel)
theorem dtX5_keep : fmDec cX5_keep dlX5_keep = true := dk_fm 0 (by decide +kernel)
theorem dtX5_goBack : fmDec cX5_goBack dlX5_goBack = true := dk_fm 0 (by decide +kernel)
theorem dtX5_copyFrom : fmDec cX5_copyFrom dlX5_copyFrom = true := dk_fm 0 (by decide +kernel)
theorem dtX6_init : fmDec cX6_init dlX6_init = true := dk_fx 0 [(7, .newarray .int, 2)] (by decide +kernel) (by decide +kernel)
theorem dtX6_begin : fmDec cX6_begin dlX6_begin = true := dk_fm 0 (by decide +kernel)
theorem dtX6_copyFrom : fmDec cX6_copyFrom dlX6_copyFrom = true := dk_fm 0 (by decide +kernel)
theorem dtX6_isAlive : fmDec cX6_isAlive dlX6_isAlive = true := dk_fm 0 (by decide +kernel)
theorem dtX6_pieces : fmDec cX6_pieces dlX6_pieces = true := dk_fm 0 (by decide +kernel)
theorem dtX7_init : fmDec cX7_init dlX7_init = true := dk_fx 0 [(8, .newarray .byte, 2)] (by decide +kernel) (by decide +kernel)
theorem dtX7_put : fmDec cX7_put dlX7_put = true := dk_fm 0 (by decide +kernel)
theorem dtX7_open : fmDec cX7_open dlX7_open = true := dk_fm 0 (by decide +kernel)
theorem dtX7_fail : fmDec cX7_fail dlX7_fail = true := dk_fm 0 (by decide +kernel)
theorem dtX7_failed : fmDec cX7_failed dlX7_failed = true := dk_fm 0 (by decide +kernel)
theorem dtX7_peek : fmDec cX7_peek dlX7_peek = true := dk_fm 0 (by decide +kernel)
theorem dtX7_nextPlace : fmDec cX7_nextPlace dlX7_nextPlace = true := dk_fm 0 (by decide +kernel)
theorem dtX7_takeSign : fmDec cX7_takeSign dlX7_takeSign = true := dk_fm 0 (by decide +kernel)
theorem dtX7_takeNumber : fmDec cX7_takeNumber dlX7_takeNumber = true := dk_fm 0 (by decide +kernel)
theorem dtX7_takeWord : fmDec cX7_takeWord dlX7_takeWord = true := dk_fm 0 (by decide +kernel)
theorem dtX7_find : fmDec cX7_find dlX7_find = true := dk_fm 0 (by decide +kernel)
theorem dtX8_init : fmDec cX8_init dlX8_init = true := dk_fx 0 [(7, .newarray .int, 2), (15, .newarray .int, 2), (23, .newarray .int, 2), (31, .newarray .int, 2), (39, .newarray .int, 2), (47, .newarray .int, 2), (55, .newarray .int, 2), (63, .newarray .int, 2), (71, .newarray .int, 2)] (by decide +kernel) (by decide +kernel)
theorem dtX8_clear : fmDec cX8_clear dlX8_clear = true := dk_fm 0 (by decide +kernel)
theorem dtX8_copyFrom : fmDec cX8_copyFrom dlX8_copyFrom = true := dk_fm 0 (by decide +kernel)
theorem dtX8_read : fmDec cX8_read dlX8_read = true := dk_fm 0 (by decide +kernel)
theorem dtX8_readClause : fmDec cX8_readClause dlX8_readClause = true := dk_fx 0 [(77, .tableswitch 55 0 3 #[31, 37, 43, 49], 31)] (by decide +kernel) (by decide +kernel)
theorem dtX8_readLife : fmDec cX8_readLife dlX8_readLife = true := dk_fm 0 (by decide +kernel)
theorem dtX8_readHas : fmDec cX8_readHas dlX8_readHas = true := dk_fm 0 (by decide +kernel)
theorem dtX8_readBy : fmDec cX8_readBy dlX8_readBy = true := dk_fm 0 (by decide +kernel)
theorem dtX8_readFact : fmDec cX8_readFact dlX8_readFact = true := dk_fm 0 (by decide +kernel)
theorem dtX8_readRule : fmDec cX8_readRule dlX8_readRule = true := dk_fx 0 [(1, .tableswitch 69 4 6 #[27, 41, 55], 27)] (by decide +kernel) (by decide +kernel)
theorem dtX8_renewHours : fmDec cX8_renewHours dlX8_renewHours = true := dk_fm 0 (by decide +kernel)
theorem dtX8_changesBetween : fmDec cX8_changesBetween dlX8_changesBetween = true := dk_fm 0 (by decide +kernel)
theorem dtX8_factBits : fmDec cX8_factBits dlX8_factBits = true := dk_fm 0 (by decide +kernel)
theorem dtX8_nextChange : fmDec cX8_nextChange dlX8_nextChange = true := dk_fm 0 (by decide +kernel)
theorem dtX9_init : fmDec cX9_init dlX9_init = true := dk_fx 0 [(8, .newarray .int, 2), (17, .newarray .int, 2), (26, .newarray .int, 2)] (by decide +kernel) (by decide +kernel)
theorem dtX9_read : fmDec cX9_read dlX9_read = true := dk_fm 0 (by decide +kernel)
theorem dtX9_readSteps : fmDec cX9_readSteps dlX9_readSteps = true := dk_fm 0 (by decide +kernel)
theorem dtX9_readStep : fmDec cX9_readStep dlX9_readStep = true := dk_fm 0 (by decide +kernel)
theorem dtX9_readAgain : fmDec cX9_readAgain dlX9_readAgain = true := dk_fm 0 (by decide +kernel)
theorem dtX9_perform : fmDec cX9_perform dlX9_perform = true := dk_fm 0 (by decide +kernel)
theorem dtX9_performStep : fmDec cX9_performStep dlX9_performStep = true := dk_fx 0 [(1, .tableswitch 84 0 2 #[27, 52, 77], 27)] (by decide +kernel) (by decide +kernel)
theorem dtX10_init : fmDec cX10_init dlX10_init = true := dk_fx 0 [(141, .newarray .int, 2), (150, .newarray .int, 2)] (by decide +kernel) (by decide +kernel)
theorem dtX10_feed : fmDec cX10_feed dlX10_feed = true := dk_fm 0 (by decide +kernel)
theorem dtX10_drawer : fmDec cX10_drawer dlX10_drawer = true := dk_fm 0 (by decide +kernel)
theorem dtX10_law : fmDec cX10_law dlX10_law = true := dk_fm 0 (by decide +kernel)
theorem dtX10_work : fmDec cX10_work dlX10_work = true := dk_fm 0 (by decide +kernel)
theorem dtX10_page : fmDec cX10_page dlX10_page = true := dk_fm 0 (by decide +kernel)
theorem dtX10_fault : fmDec cX10_fault dlX10_fault = true := dk_fm 0 (by decide +kernel)
theorem dtX10_undo : fmDec cX10_undo dlX10_undo = true := dk_fm 0 (by decide +kernel)
theorem dtX10_told : fmDec cX10_told dlX10_told = true := dk_fx 0 [(17, .tableswitch 111 0 7 #[47, 55, 60, 65, 81, 93, 98, 103], 47)] (by decide +kernel) (by decide +kernel)
theorem dtX10_life : fmDec cX10_life dlX10_life = true := dk_fx 0 [(14, .tableswitch 131 0 6 #[42, 59, 69, 79, 89, 98, 118], 42)] (by decide +kernel) (by decide +kernel)
theorem dtX10_facts : fmDec cX10_facts dlX10_facts = true := dk_fm 0 (by decide +kernel)
theorem dtX10_wrong : fmDec cX10_wrong dlX10_wrong = true := dk_fm 0 (by decide +kernel)
theorem dtX10_would : fmDec cX10_would dlX10_would = true := dk_fm 0 (by decide +kernel)
theorem dtX10_lacking : fmDec cX10_lacking dlX10_lacking = true := dk_fm 0 (by decide +kernel)
theorem dtX10_signed : fmDec cX10_signed dlX10_signed = true := dk_fm 0 (by decide +kernel)
theorem dtX10_stale : fmDec cX10_stale dlX10_stale = true := dk_fm 0 (by decide +kernel)
theorem dtX10_oldest : fmDec cX10_oldest dlX10_oldest = true := dk_fm 0 (by decide +kernel)
theorem dtX10_chain : fmDec cX10_chain dlX10_chain = true := dk_fm 0 (by decide +kernel)
theorem dtX10_loss : fmDec cX10_loss dlX10_loss = true := dk_fm 0 (by decide +kernel)
theorem dtX10_cost : fmDec cX10_cost dlX10_cost = true := dk_fm 0 (by decide +kernel)
theorem dtX10_risk : fmDec cX10_risk dlX10_risk = true := dk_fm 0 (by decide +kernel)
theorem dtX10_saves : fmDec cX10_saves dlX10_saves = true := dk_fm 0 (by decide +kernel)
theorem dtX10_first : fmDec cX10_first dlX10_first = true := dk_fm 0 (by decide +kernel)
theorem dtX10_ahead : fmDec cX10_ahead dlX10_ahead = true := dk_fm 0 (by decide +kernel)
theorem dtX10_worst : fmDec cX10_worst dlX10_worst = true := dk_fm 0 (by decide +kernel)
theorem dtX10_lives : fmDec cX10_lives dlX10_lives = true := dk_fm 0 (by decide +kernel)
theorem dtX10_due : fmDec cX10_due dlX10_due = true := dk_fm 0 (by decide +kernel)
theorem dtX10_news : fmDec cX10_news dlX10_news = true := dk_fm 0 (by decide +kernel)
theorem dtX10_expects : fmDec cX10_expects dlX10_expects = true := dk_fm 0 (by decide +kernel)
theorem dtX10_best : fmDec cX10_best dlX10_best = true := dk_fm 0 (by decide +kernel)
theorem dtX10_bestIn : fmDec cX10_bestIn dlX10_bestIn = true := dk_fm 0 (by decide +kernel)
theorem dtX10_often : fmDec cX10_often dlX10_often = true := dk_fm 0 (by decide +kernel)
theorem dtX10_yearly : fmDec cX10_yearly dlX10_yearly = true := dk_fm 0 (by decide +kernel)
theorem dtX10_brings : fmDec cX10_brings dlX10_brings = true := dk_fm 0 (by decide +kernel)
theorem dtX10_says : fmDec cX10_says dlX10_says = true := dk_fm 0 (by decide +kernel)
theorem dtX10_line : fmDec cX10_line dlX10_line = true := dk_fm 0 (by decide +kernel)
theorem dtX10_room : fmDec cX10_room dlX10_room = true := dk_fm 0 (by decide +kernel)
theorem dtX10_lines : fmDec cX10_lines dlX10_lines = true := dk_fm 0 (by decide +kernel)
theorem dtX10_apart : fmDec cX10_apart dlX10_apart = true := dk_fm 0 (by decide +kernel)
theorem dtX10_twins : fmDec cX10_twins dlX10_twins = true := dk_fm 0 (by decide +kernel)
theorem dtX10_written : fmDec cX10_written dlX10_written = true := dk_fm 0 (by decide +kernel)
theorem dtX10_whose : fmDec cX10_whose dlX10_whose = true := dk_fm 0 (by decide +kernel)
theorem dtX10_years : fmDec cX10_years dlX10_years = true := dk_fx 0 [(32, .tableswitch 84 0 3 #[32, 54, 65, 76], 32)] (by decide +kernel) (by decide +kernel)
theorem dtX10_span : fmDec cX10_span dlX10_span = true := dk_fx 0 [(151, .tableswitch 34 0 2 #[25, 28, 31], 25)] (by decide +kernel) (by decide +kernel)
theorem dtX10_image : fmDec cX10_image dlX10_image = true := dk_fm 0 (by decide +kernel)
theorem dtX10_restore : fmDec cX10_restore dlX10_restore = true := dk_fm 0 (by decide +kernel)
theorem dtX10_status : fmDec cX10_status dlX10_status = true := dk_fx 0 [(1, .lookupswitch 37 #[(0, 27), (1, 32)], 27)] (by decide +kernel) (by decide +kernel)
theorem dtX10_count : fmDec cX10_count dlX10_count = true := dk_fx 0 [(1, .tableswitch 48 0 2 #[27, 32, 40], 27)] (by decide +kernel) (by decide +kernel)
theorem dtX10_needLife : fmDec cX10_needLife dlX10_needLife = true := dk_fm 0 (by decide +kernel)
theorem dtX10_needWithin : fmDec cX10_needWithin dlX10_needWithin = true := dk_fm 0 (by decide +kernel)
theorem dtX10_needPart : fmDec cX10_needPart dlX10_needPart = true := dk_fm 0 (by decide +kernel)
theorem dtX10_needBits : fmDec cX10_needBits dlX10_needBits = true := dk_fm 0 (by decide +kernel)
theorem dtX10_needRumour : fmDec cX10_needRumour dlX10_needRumour = true := dk_fm 0 (by decide +kernel)
theorem dtX10_openText : fmDec cX10_openText dlX10_openText = true := dk_fm 0 (by decide +kernel)
theorem dtX10_aheadMost : fmDec cX10_aheadMost dlX10_aheadMost = true := dk_fm 0 (by decide +kernel)
theorem dtX10_piecesWrongBy : fmDec cX10_piecesWrongBy dlX10_piecesWrongBy = true := dk_fm 0 (by decide +kernel)
theorem dtX10_renewalPrice : fmDec cX10_renewalPrice dlX10_renewalPrice = true := dk_fm 0 (by decide +kernel)
theorem dtX10_meanOf : fmDec cX10_meanOf dlX10_meanOf = true := dk_fx 0 [(2, .lookupswitch 55 #[(0, 26), (1, 40)], 26)] (by decide +kernel) (by decide +kernel)
theorem dtX10_bestWay : fmDec cX10_bestWay dlX10_bestWay = true := dk_fm 0 (by decide +kernel)
theorem dtX10_fillRoom : fmDec cX10_fillRoom dlX10_fillRoom = true := dk_fm 0 (by decide +kernel)
theorem dtX10_addToRoom : fmDec cX10_addToRoom dlX10_addToRoom = true := dk_fm 0 (by decide +kernel)
theorem dtX10_roomShift : fmDec cX10_roomShift dlX10_roomShift = true := dk_fm 0 (by decide +kernel)
theorem dtX10_roomWorth : fmDec cX10_roomWorth dlX10_roomWorth = true := dk_fm 0 (by decide +kernel)
theorem dtX10_look : fmDec cX10_look dlX10_look = true := dk_fm 0 (by decide +kernel)
theorem dtX10_tellsApart : fmDec cX10_tellsApart dlX10_tellsApart = true := dk_fm 0 (by decide +kernel)
theorem dtX10_weeksAsPage : fmDec cX10_weeksAsPage dlX10_weeksAsPage = true := dk_fm 0 (by decide +kernel)
theorem dtX10_termOf : fmDec cX10_termOf dlX10_termOf = true := dk_fm 0 (by decide +kernel)
theorem dtX11_init : fmDec cX11_init dlX11_init = true := dk_fx 0 [(13, .newarray .int, 2), (20, .newarray .int, 2), (28, .newarray .int, 2), (36, .newarray .int, 2), (46, .multianewarray 26 2, 4), (58, .multianewarray 26 2, 4), (69, .multianewarray 26 2, 4), (80, .multianewarray 26 2, 4), (92, .multianewarray 26 2, 4), (104, .multianewarray 26 2, 4), (115, .multianewarray 26 2, 4), (126, .multianewarray 26 2, 4), (137, .newarray .int, 2), (144, .newarray .int, 2), (153, .multianewarray 26 2, 4), (163, .newarray .int, 2), (171, .newarray .int, 2), (181, .multianewarray 26 2, 4), (193, .multianewarray 26 2, 4), (204, .newarray .long, 2), (213, .newarray .long, 2), (222, .newarray .long, 2), (231, .newarray .long, 2), (238, .newarray .int, 2), (246, .newarray .int, 2), (254, .newarray .int, 2)] (by decide +kernel) (by decide +kernel)
theorem dtX11_tellsNothing : fmDec cX11_tellsNothing dlX11_tellsNothing = true := dk_fm 0 (by decide +kernel)
theorem dtX11_bad : fmDec cX11_bad dlX11_bad = true := dk_fm 0 (by decide +kernel)
theorem dtX11_in : fmDec cX11_in dlX11_in = true := dk_fm 0 (by decide +kernel)
theorem dtX11_less : fmDec cX11_less dlX11_less = true := dk_fm 0 (by decide +kernel)
theorem dtX11_more : fmDec cX11_more dlX11_more = true := dk_fm 0 (by decide +kernel)
theorem dtX11_has : fmDec cX11_has dlX11_has = true := dk_fm 0 (by decide +kernel)
theorem dtX11_feed : fmDec cX11_feed dlX11_feed = true := dk_fm 0 (by decide +kernel)
theorem dtX11_byteAt : fmDec cX11_byteAt dlX11_byteAt = true := dk_fm 0 (by decide +kernel)
theorem dtX11_blanks : fmDec cX11_blanks dlX11_blanks = true := dk_fm 0 (by decide +kernel)
theorem dtX11_wrongAt : fmDec cX11_wrongAt dlX11_wrongAt = true := dk_fm 0 (by decide +kernel)
theorem dtX11_isDigit : fmDec cX11_isDigit dlX11_isDigit = true := dk_fm 0 (by decide +kernel)
theorem dtX11_isSmall : fmDec cX11_isSmall dlX11_isSmall = true := dk_fm 0 (by decide +kernel)
theorem dtX11_number : fmDec cX11_number dlX11_number = true := dk_fm 0 (by decide +kernel)
theorem dtX11_wordHere : fmDec cX11_wordHere dlX11_wordHere = true := dk_fm 0 (by decide +kernel)
theorem dtX11_five : fmDec cX11_five dlX11_five = true := dk_fm 0 (by decide +kernel)
theorem dtX11_isWord : fmDec cX11_isWord dlX11_isWord = true := dk_fm 0 (by decide +kernel)
theorem dtX11_skipWord : fmDec cX11_skipWord dlX11_skipWord = true := dk_fm 0 (by decide +kernel)
theorem dtX11_takes : fmDec cX11_takes dlX11_takes = true := dk_fm 0 (by decide +kernel)
theorem dtX11_sign : fmDec cX11_sign dlX11_sign = true := dk_fm 0 (by decide +kernel)
theorem dtX11_takesSign : fmDec cX11_takesSign dlX11_takesSign = true := dk_fm 0 (by decide +kernel)
theorem dtX11_starts : fmDec cX11_starts dlX11_starts = true := dk_fm 0 (by decide +kernel)
theorem dtX11_ends : fmDec cX11_ends dlX11_ends = true := dk_fm 0 (by decide +kernel)
theorem dtX11_kindHere : fmDec cX11_kindHere dlX11_kindHere = true := dk_fm 0 (by decide +kernel)
theorem dtX11_lifeHere : fmDec cX11_lifeHere dlX11_lifeHere = true := dk_fm 0 (by decide +kernel)
theorem dtX11_clause : fmDec cX11_clause dlX11_clause = true := dk_fx 0 [(94, .tableswitch 251 0 7 #[46, 109, 251, 251, 251, 251, 150, 182], 46)] (by decide +kernel) (by decide +kernel)
theorem dtX11_drawer : fmDec cX11_drawer dlX11_drawer = true := dk_fm 0 (by decide +kernel)
theorem dtX11_lays : fmDec cX11_lays dlX11_lays = true := dk_fm 0 (by decide +kernel)
theorem dtX11_copies : fmDec cX11_copies dlX11_copies = true := dk_fm 0 (by decide +kernel)
theorem dtX11_stands : fmDec cX11_stands dlX11_stands = true := dk_fm 0 (by decide +kernel)
theorem dtX11_notes : fmDec cX11_notes dlX11_notes = true := dk_fm 0 (by decide +kernel)
theorem dtX11_opens : fmDec cX11_opens dlX11_opens = true := dk_fm 0 (by decide +kernel)
theorem dtX11_sum : fmDec cX11_sum dlX11_sum = true := dk_fm 0 (by decide +kernel)
theorem dtX11_product : fmDec cX11_product dlX11_product = true := dk_fm 0 (by decide +kernel)
theorem dtX11_knownHere : fmDec cX11_knownHere dlX11_knownHere = true := dk_fm 0 (by decide +kernel)
theorem dtX11_one : fmDec cX11_one dlX11_one = true := dk_fm 0 (by decide +kernel)
theorem dtX11_law : fmDec cX11_law dlX11_law = true := dk_fm 0 (by decide +kernel)
theorem dtX11_by : fmDec cX11_by dlX11_by = true := dk_fx 0 [(1, .tableswitch 75 2 6 #[35, 39, 43, 47, 69], 35)] (by decide +kernel) (by decide +kernel)
theorem dtX11_byLaw : fmDec cX11_byLaw dlX11_byLaw = true := dk_fm 0 (by decide +kernel)
theorem dtX11_stepHere : fmDec cX11_stepHere dlX11_stepHere = true := dk_fm 0 (by decide +kernel)
theorem dtX11_readsStep : fmDec cX11_readsStep dlX11_readsStep = true := dk_fm 0 (by decide +kernel)
theorem dtX11_page : fmDec cX11_page dlX11_page = true := dk_fm 0 (by decide +kernel)
theorem dtX11_fault : fmDec cX11_fault dlX11_fault = true := dk_fm 0 (by decide +kernel)
theorem dtX11_hasPiece : fmDec cX11_hasPiece dlX11_hasPiece = true := dk_fm 0 (by decide +kernel)
theorem dtX11_changesOf : fmDec cX11_changesOf dlX11_changesOf = true := dk_fm 0 (by decide +kernel)
theorem dtX11_factsAt : fmDec cX11_factsAt dlX11_factsAt = true := dk_fm 0 (by decide +kernel)
theorem dtX11_wrongBy : fmDec cX11_wrongBy dlX11_wrongBy = true := dk_fm 0 (by decide +kernel)
theorem dtX11_yearsOf : fmDec cX11_yearsOf dlX11_yearsOf = true := dk_fm 0 (by decide +kernel)
theorem dtX11_isByDead : fmDec cX11_isByDead dlX11_isByDead = true := dk_fm 0 (by decide +kernel)
theorem dtX11_wrongIn : fmDec cX11_wrongIn dlX11_wrongIn = true := dk_fm 0 (by decide +kernel)
theorem dtX11_costIn : fmDec cX11_costIn dlX11_costIn = true := dk_fm 0 (by decide +kernel)
theorem dtX11_costOf : fmDec cX11_costOf dlX11_costOf = true := dk_fm 0 (by decide +kernel)
theorem dtX11_renewHours : fmDec cX11_renewHours dlX11_renewHours = true := dk_fm 0 (by decide +kernel)
theorem dtX11_hoursFor : fmDec cX11_hoursFor dlX11_hoursFor = true := dk_fm 0 (by decide +kernel)
theorem dtX11_mayWrite : fmDec cX11_mayWrite dlX11_mayWrite = true := dk_fm 0 (by decide +kernel)
theorem dtX11_writes : fmDec cX11_writes dlX11_writes = true := dk_fm 0 (by decide +kernel)
theorem dtX11_dies : fmDec cX11_dies dlX11_dies = true := dk_fm 0 (by decide +kernel)
theorem dtX11_weekEnds : fmDec cX11_weekEnds dlX11_weekEnds = true := dk_fm 0 (by decide +kernel)
theorem dtX11_does : fmDec cX11_does dlX11_does = true := dk_fx 0 [(7, .tableswitch 97 0 2 #[25, 25, 77], 25)] (by decide +kernel) (by decide +kernel)
theorem dtX11_goes : fmDec cX11_goes dlX11_goes = true := dk_fm 0 (by decide +kernel)
theorem dtX11_work : fmDec cX11_work dlX11_work = true := dk_fm 0 (by decide +kernel)
theorem dtX11_undo : fmDec cX11_undo dlX11_undo = true := dk_fm 0 (by decide +kernel)
theorem dtX11_aliveIn : fmDec cX11_aliveIn dlX11_aliveIn = true := dk_fm 0 (by decide +kernel)
theorem dtX11_told : fmDec cX11_told dlX11_told = true := dk_fx 0 [(32, .tableswitch 142 0 7 #[48, 55, 63, 71, 80, 121, 129, 137], 48)] (by decide +kernel) (by decide +kernel)
theorem dtX11_isLife : fmDec cX11_isLife dlX11_isLife = true := dk_fm 0 (by decide +kernel)
theorem dtX11_life : fmDec cX11_life dlX11_life = true := dk_fx 0 [(54, .tableswitch 113 0 6 #[42, 55, 55, 55, 64, 70, 81], 42)] (by decide +kernel) (by decide +kernel)
theorem dtX11_facts : fmDec cX11_facts dlX11_facts = true := dk_fm 0 (by decide +kernel)
theorem dtX11_wrongOf : fmDec cX11_wrongOf dlX11_wrongOf = true := dk_fm 0 (by decide +kernel)
theorem dtX11_wrong : fmDec cX11_wrong dlX11_wrong = true := dk_fm 0 (by decide +kernel)
theorem dtX11_would : fmDec cX11_would dlX11_would = true := dk_fm 0 (by decide +kernel)
theorem dtX11_partOf : fmDec cX11_partOf dlX11_partOf = true := dk_fm 0 (by decide +kernel)
theorem dtX11_power : fmDec cX11_power dlX11_power = true := dk_fm 0 (by decide +kernel)
theorem dtX11_noPart : fmDec cX11_noPart dlX11_noPart = true := dk_fm 0 (by decide +kernel)
theorem dtX11_loss : fmDec cX11_loss dlX11_loss = true := dk_fm 0 (by decide +kernel)
theorem dtX11_cost : fmDec cX11_cost dlX11_cost = true := dk_fm 0 (by decide +kernel)
theorem dtX11_riskOf : fmDec cX11_riskOf dlX11_riskOf = true := dk_fm 0 (by decide +kernel)
theorem dtX11_risk : fmDec cX11_risk dlX11_risk = true := dk_fm 0 (by decide +kernel)
theorem dtX11_saved : fmDec cX11_saved dlX11_saved = true := dk_fm 0 (by decide +kernel)
theorem dtX11_saves : fmDec cX11_saves dlX11_saves = true := dk_fm 0 (by decide +kernel)
theorem dtX11_firstOf : fmDec cX11_firstOf dlX11_firstOf = true := dk_fm 0 (by decide +kernel)
theorem dtX11_first : fmDec cX11_first dlX11_first = true := dk_fm 0 (by decide +kernel)
theorem dtX11_lacking : fmDec cX11_lacking dlX11_lacking = true := dk_fm 0 (by decide +kernel)
theorem dtX11_signed : fmDec cX11_signed dlX11_signed = true := dk_fm 0 (by decide +kernel)
theorem dtX11_stale : fmDec cX11_stale dlX11_stale = true := dk_fm 0 (by decide +kernel)
theorem dtX11_isOption : fmDec cX11_isOption dlX11_isOption = true := dk_fm 0 (by decide +kernel)
theorem dtX11_roomOf : fmDec cX11_roomOf dlX11_roomOf = true := dk_fm 0 (by decide +kernel)
theorem dtX11_laysOption : fmDec cX11_laysOption dlX11_laysOption = true := dk_fm 0 (by decide +kernel)
theorem dtX11_laysBest : fmDec cX11_laysBest dlX11_laysBest = true := dk_fm 0 (by decide +kernel)
theorem dtX11_best : fmDec cX11_best dlX11_best = true := dk_fm 0 (by decide +kernel)
theorem dtX11_bestIn : fmDec cX11_bestIn dlX11_bestIn = true := dk_fm 0 (by decide +kernel)
theorem dtX11_oftenBy : fmDec cX11_oftenBy dlX11_oftenBy = true := dk_fm 0 (by decide +kernel)
theorem dtX11_often : fmDec cX11_often dlX11_often = true := dk_fm 0 (by decide +kernel)
theorem dtX11_yearly : fmDec cX11_yearly dlX11_yearly = true := dk_fm 0 (by decide +kernel)
theorem dtX11_bringsBy : fmDec cX11_bringsBy dlX11_bringsBy = true := dk_fm 0 (by decide +kernel)
theorem dtX11_isRumour : fmDec cX11_isRumour dlX11_isRumour = true := dk_fm 0 (by decide +kernel)
theorem dtX11_brings : fmDec cX11_brings dlX11_brings = true := dk_fm 0 (by decide +kernel)
theorem dtX11_saysBy : fmDec cX11_saysBy dlX11_saysBy = true := dk_fm 0 (by decide +kernel)
theorem dtX11_says : fmDec cX11_says dlX11_says = true := dk_fm 0 (by decide +kernel)
theorem dtX11_line : fmDec cX11_line dlX11_line = true := dk_fm 0 (by decide +kernel)
theorem dtX11_areLives : fmDec cX11_areLives dlX11_areLives = true := dk_fm 0 (by decide +kernel)
theorem dtX11_rooms : fmDec cX11_rooms dlX11_rooms = true := dk_fm 0 (by decide +kernel)
theorem dtX11_laysRoom : fmDec cX11_laysRoom dlX11_laysRoom = true := dk_fm 0 (by decide +kernel)
theorem dtX11_room : fmDec cX11_room dlX11_room = true := dk_fm 0 (by decide +kernel)
theorem dtX11_lines : fmDec cX11_lines dlX11_lines = true := dk_fm 0 (by decide +kernel)
theorem dtX11_ones : fmDec cX11_ones dlX11_ones = true := dk_fm 0 (by decide +kernel)
theorem dtX11_isApart : fmDec cX11_isApart dlX11_isApart = true := dk_fm 0 (by decide +kernel)
theorem dtX11_apart : fmDec cX11_apart dlX11_apart = true := dk_fm 0 (by decide +kernel)
theorem dtX11_twins : fmDec cX11_twins dlX11_twins = true := dk_fm 0 (by decide +kernel)
theorem dtX11_writtenOf : fmDec cX11_writtenOf dlX11_writtenOf = true := dk_fm 0 (by decide +kernel)
theorem dtX11_written : fmDec cX11_written dlX11_written = true := dk_fm 0 (by decide +kernel)
theorem dtX11_whose : fmDec cX11_whose dlX11_whose = true := dk_fm 0 (by decide +kernel)
theorem dtX11_riskIn : fmDec cX11_riskIn dlX11_riskIn = true := dk_fm 0 (by decide +kernel)
theorem dtX11_ahead : fmDec cX11_ahead dlX11_ahead = true := dk_fm 0 (by decide +kernel)
theorem dtX11_worst : fmDec cX11_worst dlX11_worst = true := dk_fm 0 (by decide +kernel)
theorem dtX11_lives : fmDec cX11_lives dlX11_lives = true := dk_fm 0 (by decide +kernel)
theorem dtX11_oldest : fmDec cX11_oldest dlX11_oldest = true := dk_fm 0 (by decide +kernel)
theorem dtX11_chain : fmDec cX11_chain dlX11_chain = true := dk_fm 0 (by decide +kernel)
theorem dtX11_due : fmDec cX11_due dlX11_due = true := dk_fm 0 (by decide +kernel)
theorem dtX11_news : fmDec cX11_news dlX11_news = true := dk_fm 0 (by decide +kernel)
theorem dtX11_expects : fmDec cX11_expects dlX11_expects = true := dk_fm 0 (by decide +kernel)
theorem dtX11_yearsBy : fmDec cX11_yearsBy dlX11_yearsBy = true := dk_fm 0 (by decide +kernel)
theorem dtX11_years : fmDec cX11_years dlX11_years = true := dk_fx 0 [(47, .tableswitch 75 0 3 #[29, 38, 54, 70], 29)] (by decide +kernel) (by decide +kernel)
theorem dtX11_span : fmDec cX11_span dlX11_span = true := dk_fm 0 (by decide +kernel)
theorem dtX11_puts : fmDec cX11_puts dlX11_puts = true := dk_fm 0 (by decide +kernel)
theorem dtX11_putsAll : fmDec cX11_putsAll dlX11_putsAll = true := dk_fm 0 (by decide +kernel)
theorem dtX11_image : fmDec cX11_image dlX11_image = true := dk_fm 0 (by decide +kernel)
theorem dtX11_restore : fmDec cX11_restore dlX11_restore = true := dk_fm 0 (by decide +kernel)
theorem dtX11_status : fmDec cX11_status dlX11_status = true := dk_fm 0 (by decide +kernel)
theorem dtX11_count : fmDec cX11_count dlX11_count = true := dk_fm 0 (by decide +kernel)
theorem dtJ6_bitCount_0f7a4 : fmDec cJ6_bitCount_0f7a4 dlJ6_bitCount_0f7a4 = true := dk_fm 0 (by decide +kernel)
theorem dtJ9_max_7cf53 : fmDec cJ9_max_7cf53 dlJ9_max_7cf53 = true := dk_fm 0 (by decide +kernel)
theorem dtJ9_max_f86c9 : fmDec cJ9_max_f86c9 dlJ9_max_f86c9 = true := dk_fm 0 (by decide +kernel)
theorem dtJ9_min_7cf53 : fmDec cJ9_min_7cf53 dlJ9_min_7cf53 = true := dk_fm 0 (by decide +kernel)
theorem dtJ9_min_f86c9 : fmDec cJ9_min_f86c9 dlJ9_min_f86c9 = true := dk_fm 0 (by decide +kernel)
theorem dtJ0_length_8abf5 : fmDec cJ0_length_8abf5 dlJ0_length_8abf5 = true := dk_fm 0 (by decide +kernel)
theorem dtJ0_charAt_5068e : fmDec cJ0_charAt_5068e dlJ0_charAt_5068e = true := dk_fm 0 (by decide +kernel)
theorem dtJ0_coder_7d493 : fmDec cJ0_coder_7d493 dlJ0_coder_7d493 = true := dk_fm 0 (by decide +kernel)
theorem dtJ0_isLatin1_aae02 : fmDec cJ0_isLatin1_aae02 dlJ0_isLatin1_aae02 = true := dk_fm 0 (by decide +kernel)
theorem dtJ0_checkIndex_df160 : fmDec cJ0_checkIndex_df160 dlJ0_checkIndex_df160 = true := dk_fm 0 (by decide +kernel)
theorem dtJ1_charAt_3b067 : fmDec cJ1_charAt_3b067 dlJ1_charAt_3b067 = true := dk_fm 0 (by decide +kernel)
theorem dtJ2_getChar_3b067 : fmDec cJ2_getChar_3b067 dlJ2_getChar_3b067 = true := dk_fm 0 (by decide +kernel)
theorem dtJ2_length_9d52b : fmDec cJ2_length_9d52b dlJ2_length_9d52b = true := dk_fm 0 (by decide +kernel)
theorem dtJ2_charAt_3b067 : fmDec cJ2_charAt_3b067 dlJ2_charAt_3b067 = true := dk_fm 0 (by decide +kernel)
theorem dtJ2_checkIndex_2214a : fmDec cJ2_checkIndex_2214a dlJ2_checkIndex_2214a = true := dk_fm 0 (by decide +kernel)
theorem dtJ7_fill_d0a16 : fmDec cJ7_fill_d0a16 dlJ7_fill_d0a16 = true := dk_fm 0 (by decide +kernel)
theorem dtJ7_fill_53178 : fmDec cJ7_fill_53178 dlJ7_fill_53178 = true := dk_fm 0 (by decide +kernel)
theorem dtJ3_checkIndex_8e157 : fmDec cJ3_checkIndex_8e157 dlJ3_checkIndex_8e157 = true := dk_fm 0 (by decide +kernel)
end
-- P 04
section
-- THE FLAT MACHINE: a world whose cells are all there and never re-tied (class or reference after its constructor): memory M = ints and longs by (cell, place); references are fixed by tables T and addresses G
abbrev fmM : Type := (Nat → Nat → Int32) × (Nat → Nat → Int64)
/-- tables: how many cells; a cell's kind; its length (or number of fields); to which cell a place points -/
abbrev fmT : Type := Nat × (Nat → Nat) × (Nat → Nat) × (Nat → Nat → Nat)
/-- addresses of the cells; classes and slots of the objects; classes of the arrays; the String constants and their bytes -/
abbrev fmG : Type := (Nat → Nat) × va_G × (Nat → ClassId) × (Nat → Nat) × (Nat → Nat)
abbrev fmY : Type := MethodName × ByteArray × Nat × Option FieldType
/-- a method's end: returned, or the class thrown -/
abbrev fmR : Type := Option Value ⊕ String
def fmWs : List Cond := lw_tbl.filter goodWord
def fmWy (y : fmY) : List Cond := Cond.code y.1 y.2.1 y.2.2.1 y.2.2.2 :: fmWs
def fmTy (c j : Nat) : FieldType := match c with
  | 0 => tyX0 j
  | 1 => tyX1 j
  | 2 => tyX2 j
  | 3 => tyX3 j
  | 4 => tyX4 j
  | 5 => tyX5 j
  | 6 => tyX6 j
  | 7 => tyX7 j
  | 8 => tyX8 j
  | 9 => tyX9 j
  | 10 => tyX10 j
  | _ => tyX11 j
def fmVal (T : fmT) (G : fmG) (M : fmM) (k j : Nat) (ty : FieldType) : Value := match ty with
  | .int => .int (M.1 k j)
  | .long => .long (M.2 k j)
  | _ => .ref (G.1 (T.2.2.2 k j))
def fmRow (T : fmT) (G : fmG) (k : Nat) : Nat → Option Nat := fun i => if i < T.2.2.1 k then some (G.1 (T.2.2.2 k i)) else none
def fmEnt (T : fmT) (G : fmG) (M : fmM) (k : Nat) : va_E := match T.2.1 k with
  | 0 => .inl (G.2.2.1 0, T.2.2.1 k, .inl (M.1 k))
  | 1 => .inl (G.2.2.1 1, T.2.2.1 k, .inr (.inl (M.2 k)))
  | 2 => .inl (G.2.2.1 2, T.2.2.1 k, .inl (M.1 k))
  | 3 => .inl (G.2.2.1 3, T.2.2.1 k, .inr (.inr (.inr (.inr (fmRow T G k)))))
  | 4 => .inl (G.2.2.1 4, T.2.2.1 k, .inr (.inr (.inr (.inr (fmRow T G k)))))
  | 5 => .inl (G.2.2.1 5, T.2.2.1 k, .inr (.inr (.inr (.inr (fmRow T G k)))))
  | c + 6 => .inr (c, (List.range (T.2.2.1 k)).map (fun j => fmVal T G M k j (fmTy c j)))
def fmL (T : fmT) (G : fmG) (M : fmM) : va_W := (List.range T.1).map (fun k => (G.1 k, fmEnt T G M k))
def fmTys (G : fmG) : List (ClassId × FieldType) := [(G.2.2.1 0, .int), (G.2.2.1 1, .long), (G.2.2.1 2, .byte), (G.2.2.1 3, .object "LifeDrawer$Shelf"), (G.2.2.1 4, .object "LifeDrawer$State"), (G.2.2.1 5, .array .int)]
def fmI (M : fmM) (k j : Nat) (v : Int32) : fmM := (fun k' => if k' = k then upd (M.1 k) j v else M.1 k', M.2)
def fmJ (M : fmM) (k j : Nat) (v : Int64) : fmM := (M.1, fun k' => if k' = k then vp_updL (M.2 k) j v else M.2 k')
/-- a whole int array anew -/
def fmA (M : fmM) (k : Nat) (f : Nat → Int32) : fmM := (fun k' => if k' = k then f else M.1 k', M.2)
def fmB (M : fmM) (k : Nat) (f : Nat → Int64) : fmM := (M.1, fun k' => if k' = k then f else M.2 k')
theorem fmL_at {T : fmT} {G : fmG} {M : fmM} {rest : va_W} {k : Nat} (hk : k < T.1) : (fmL T G M ++ rest)[k]? = some (G.1 k, fmEnt T G M k) := by
  have hl : k < (fmL T G M).length := by simp [fmL, hk]
  rw [List.getElem?_append_left hl]
  simp [fmL, hk]
theorem fmL_set {T : fmT} {G : fmG} {M M' : fmM} {rest : va_W} {k : Nat} (hk : k < T.1) (h : ∀ k', k' ≠ k → fmEnt T G M' k' = fmEnt T G M k') : (fmL T G M ++ rest).set k (G.1 k, fmEnt T G M' k) = fmL T G M' ++ rest := by
  have hl : k < (fmL T G M).length := by simp [fmL, hk]
  rw [List.set_append_left _ _ hl]
  congr 1
  apply List.ext_getElem?
  intro i
  rw [List.getElem?_set]
  by_cases e : k = i
  · subst e
    simp [fmL, hk]
  · simp only [e, if_false]
    simp only [fmL, List.getElem?_map]
    cases hi : (List.range T.1)[i]? with
    | none => rfl
    | some j =>
      have hj : j = i := by
        have := List.getElem?_eq_some_iff.mp hi
        obtain ⟨h1, h2⟩ := this
        simpa using h2.symm
      subst hj
      simp [h j (fun q => e q.symm)]
theorem fmEnt_I {T : fmT} {G : fmG} {M : fmM} {k j : Nat} {v : Int32} : ∀ k', k' ≠ k → fmEnt T G (fmI M k j v) k' = fmEnt T G M k' := by
  intro k' h
  have e : (fmI M k j v).1 k' = M.1 k' := by simp [fmI, h]
  have e2 : (fmI M k j v).2 = M.2 := rfl
  simp only [fmEnt, fmVal, e, e2]
theorem fmEnt_J {T : fmT} {G : fmG} {M : fmM} {k j : Nat} {v : Int64} : ∀ k', k' ≠ k → fmEnt T G (fmJ M k j v) k' = fmEnt T G M k' := by
  intro k' h
  have e : (fmJ M k j v).2 k' = M.2 k' := by simp [fmJ, h]
  have e2 : (fmJ M k j v).1 = M.1 := rfl
  simp only [fmEnt, fmVal, e, e2]
theorem fmEnt_A {T : fmT} {G : fmG} {M : fmM} {k : Nat} {f : Nat → Int32} : ∀ k', k' ≠ k → fmEnt T G (fmA M k f) k' = fmEnt T G M k' := by
  intro k' h
  have e : (fmA M k f).1 k' = M.1 k' := by simp [fmA, h]
  have e2 : (fmA M k f).2 = M.2 := rfl
  simp only [fmEnt, fmVal, e, e2]
theorem fmEnt_B {T : fmT} {G : fmG} {M : fmM} {k : Nat} {f : Nat → Int64} : ∀ k', k' ≠ k → fmEnt T G (fmB M k f) k' = fmEnt T G M k' := by
  intro k' h
  have e : (fmB M k f).2 k' = M.2 k' := by simp [fmB, h]
  have e2 : (fmB M k f).1 = M.1 := rfl
  simp only [fmEnt, fmVal, e, e2]
theorem fmEnt_Iarr {T : fmT} {G : fmG} {M : fmM} {k j : Nat} {v : Int32} (hk : T.2.1 k = 0) : fmEnt T G (fmI M k j v) k = .inl (G.2.2.1 0, T.2.2.1 k, .inl (upd (M.1 k) j v)) := by
  simp [fmEnt, hk, fmI]
theorem fmEnt_Ibyte {T : fmT} {G : fmG} {M : fmM} {k j : Nat} {v : Int32} (hk : T.2.1 k = 2) : fmEnt T G (fmI M k j v) k = .inl (G.2.2.1 2, T.2.2.1 k, .inl (upd (M.1 k) j v)) := by
  simp [fmEnt, hk, fmI]
theorem fmEnt_Jarr {T : fmT} {G : fmG} {M : fmM} {k j : Nat} {v : Int64} (hk : T.2.1 k = 1) : fmEnt T G (fmJ M k j v) k = .inl (G.2.2.1 1, T.2.2.1 k, .inr (.inl (vp_updL (M.2 k) j v))) := by
  simp [fmEnt, hk, fmJ]
theorem fmEnt_Iobj {T : fmT} {G : fmG} {M : fmM} {k j c : Nat} {v : Int32} (hk : T.2.1 k = c + 6) (hj : j < T.2.2.1 k) (hty : fmTy c j = .int) : fmEnt T G (fmI M k j v) k = .inr (c, ((List.range (T.2.2.1 k)).map (fun j => fmVal T G M k j (fmTy c j))).set j (.int v)) := by
  simp only [fmEnt, hk]
  congr 2
  apply List.ext_getElem?
  intro i
  rw [List.getElem?_set]
  by_cases e : j = i
  · subst e
    simp [hj, hty, fmVal, fmI, upd]
  · simp only [e, if_false, List.getElem?_map]
    cases hi : (List.range (T.2.2.1 k))[i]? with
    | none => rfl
    | some q =>
      have hq : q = i := by
        obtain ⟨h1, h2⟩ := List.getElem?_eq_some_iff.mp hi
        simpa using h2.symm
      subst hq
      have e2 : ¬ q = j := fun z => e z.symm
      simp only [Option.map_some]
      cases fmTy c q <;> simp [fmVal, fmI, upd, e2]
theorem fmEnt_Jobj {T : fmT} {G : fmG} {M : fmM} {k j c : Nat} {v : Int64} (hk : T.2.1 k = c + 6) (hj : j < T.2.2.1 k) (hty : fmTy c j = .long) : fmEnt T G (fmJ M k j v) k = .inr (c, ((List.range (T.2.2.1 k)).map (fun j => fmVal T G M k j (fmTy c j))).set j (.long v)) := by
  simp only [fmEnt, hk]
  congr 2
  apply List.ext_getElem?
  intro i
  rw [List.getElem?_set]
  by_cases e : j = i
  · subst e
    simp [hj, hty, fmVal, fmJ, vp_updL]
  · simp only [e, if_false, List.getElem?_map]
    cases hi : (List.range (T.2.2.1 k))[i]? with
    | none => rfl
    | some q =>
      have hq : q = i := by
        obtain ⟨h1, h2⟩ := List.getElem?_eq_some_iff.mp hi
        simpa using h2.symm
      subst hq
      have e2 : ¬ q = j := fun z => e z.symm
      simp only [Option.map_some]
      cases fmTy c q <;> simp [fmVal, fmJ, vp_updL, e2]
-- LOCALS, by place
def fmHas (ls : Array Slot) (nL : Nat) (L : List (Option Value)) : Prop := ls.size = nL ∧ lv_wf ls ∧ ∀ (i : Nat) (v : Value), L[i]? = some (some v) → ls[i]? = some (.val v)
def fmLs (L : List (Option Value)) : List (Nat × Value) := (List.range L.length).filterMap (fun i => match L[i]? with
  | some (some v) => some (i, v)
  | _ => none)
theorem fmLs_mem {L : List (Option Value)} {i : Nat} {v : Value} : (i, v) ∈ fmLs L ↔ L[i]? = some (some v) := by
  unfold fmLs
  rw [List.mem_filterMap]
  constructor
  · rintro ⟨j, hj, h⟩
    cases hL : L[j]? with
    | none => simp [hL] at h
    | some w =>
      cases w with
      | none => simp [hL] at h
      | some w =>
        simp [hL] at h
        obtain ⟨rfl, rfl⟩ := h
        exact hL
  · intro h
    have hl : i < L.length := (List.getElem?_eq_some_iff.mp h).1
    exact ⟨i, by simp [hl], by simp [h]⟩
theorem fmHas.lv {ls : Array Slot} {nL : Nat} {L : List (Option Value)} (h : fmHas ls nL L) : lv_has ls nL (fmLs L) := ⟨h.1, h.2.1, fun q hq => h.2.2 q.1 q.2 (fmLs_mem.mp hq)⟩
/-- the place ahead holds no long -/
def fmNo2 (L : List (Option Value)) (i : Nat) : Bool := match i with
  | 0 => true
  | j + 1 => match L[j]? with
    | some (some v) => v.category != 2
    | _ => true
theorem fmHas.set1 {ls : Array Slot} {nL : Nat} {L : List (Option Value)} {i : Nat} {v : Value} (h : lv_has ls nL ((i, v) :: (fmLs L).filter (fun q => !(q.1 == i) && !(q.1 + 1 == i && q.2.category == 2)))) (hn : fmNo2 L i = true) : fmHas ls nL (L.set i (some v)) := by
  refine ⟨h.1, h.2.1, fun j w hj => ?_⟩
  rw [List.getElem?_set] at hj
  by_cases e : i = j
  · subst e
    simp only [if_true] at hj
    split at hj
    · simp at hj
      subst hj
      exact h.2.2 _ List.mem_cons_self
    · cases hj
  · simp only [e, if_false] at hj
    refine h.2.2 (j, w) (List.mem_cons_of_mem _ (List.mem_filter.mpr ⟨fmLs_mem.mpr hj, ?_⟩))
    have e1 : ¬ j = i := fun z => e z.symm
    simp only [Bool.and_eq_true, Bool.not_eq_true', beq_eq_false_iff_ne, ne_eq, e1, not_false_eq_true, true_and]
    by_cases e2 : j + 1 = i
    · subst e2
      simp [fmNo2, hj] at hn
      simp [hn]
    · simp [e2]
theorem fmHas.set2 {ls : Array Slot} {nL : Nat} {L : List (Option Value)} {i : Nat} {v : Value} (h : lv_has ls nL ((i, v) :: (fmLs L).filter (fun q => !(q.1 == i) && (!(q.1 == i + 1) && !(q.1 + 1 == i && q.2.category == 2))))) (hn : fmNo2 L i = true) : fmHas ls nL ((L.set i (some v)).set (i + 1) none) := by
  refine ⟨h.1, h.2.1, fun j w hj => ?_⟩
  rw [List.getElem?_set] at hj
  by_cases e0 : i + 1 = j
  · subst e0
    simp only [if_true] at hj
    split at hj <;> simp at hj
  · simp only [e0, if_false] at hj
    rw [List.getElem?_set] at hj
    by_cases e : i = j
    · subst e
      simp only [if_true] at hj
      split at hj
      · simp at hj
        subst hj
        exact h.2.2 _ List.mem_cons_self
      · cases hj
    · simp only [e, if_false] at hj
      refine h.2.2 (j, w) (List.mem_cons_of_mem _ (List.mem_filter.mpr ⟨fmLs_mem.mpr hj, ?_⟩))
      have e1 : ¬ j = i := fun z => e z.symm
      have e3 : ¬ j = i + 1 := fun z => e0 z.symm
      simp only [Bool.and_eq_true, Bool.not_eq_true', beq_eq_false_iff_ne, ne_eq, e1, e3, not_false_eq_true, true_and]
      by_cases e2 : j + 1 = i
      · subst e2
        simp [fmNo2, hj] at hn
        simp [hn]
      · simp [e2]
-- LINKS
/-- a class of the list: its layout's words, its fields' types and names -/
def fmCl (ci : Nat) (r : vw_C) : Prop := vwCl[ci]? = some r ∧ (∀ w ∈ u_ws r.1 r.2.1 r.2.2, w ∈ fmWs) ∧ (∀ k, k < r.2.2 → parseFieldDescriptor (r.2.1 k).2.2.1 = some (fmTy ci k)) ∧ ∀ a, a < r.2.2 → ∀ b, b < r.2.2 → a ≠ b → (r.2.1 a).2.1 ≠ (r.2.1 b).2.1
/-- place 'idx' of the pool of 'own' is field j of class ci -/
def fmFl (own : String) (idx ci j : Nat) : Prop := ∃ r : vw_C, fmCl ci r ∧ j < r.2.2 ∧ Cond.fieldLink own idx (r.2.1 j).1 (r.2.1 j).2.1 (r.2.1 j).2.2.1 ∈ fmWs
def fmFin (ci j : Nat) : Bool := match vwCl[ci]? with
  | some r => (r.2.1 j).2.2.2
  | none => true
/-- the words of a call: place 'idx' of the pool of 'own' is the method y -/
def fmCb (own : String) (idx : Nat) (y : fmY) (n : Nat) : Prop := Cond.methodLink own idx y.1 ∈ fmWs ∧ Cond.initialized y.1.cls ∈ fmWs ∧ Cond.code y.1 y.2.1 y.2.2.1 y.2.2.2 ∈ fmWs ∧ (y.1.cls ≠ "java/lang/invoke/MethodHandle" ∧ y.1.cls ≠ "java/lang/invoke/VarHandle" ∧ (parseMethodDescriptor y.1.desc).map (fun d => d.parameters.length) = some n) ∧ y.2.2.1 ≤ 40
def fmCv (own : String) (idx : Nat) (y : fmY) (n ci : Nat) : Prop := fmCb own idx y n ∧ Cond.instanceMethod y.1 ∈ fmWs ∧ Cond.selects y.1.cls y.1 y.1 ∈ fmWs ∧ ∃ r : vw_C, vwCl[ci]? = some r ∧ r.1 = y.1.cls
def fmCs (own : String) (idx : Nat) (y : fmY) (n : Nat) : Prop := fmCb own idx y n ∧ Cond.static y.1 ∈ fmWs
end
