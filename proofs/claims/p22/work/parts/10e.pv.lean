-- THE PURE MACHINE: it runs a method over the flat memory; a cell is written as the reference of its number, text i as reference 1000 + i
abbrev scCo : Type := Jvm.ClassFile.Cond
def scNeg (c : scCo) : scCo := match c with
  | .eq => .ne
  | .ne => .eq
  | .lt => .ge
  | .ge => .lt
  | .gt => .le
  | .le => .gt
def scRel (c : scCo) (x z : Int) : Prop := match c with
  | .eq => x = z
  | .ne => ¬ x = z
  | .lt => x < z
  | .ge => z ≤ x
  | .gt => z < x
  | .le => x ≤ z
def pvRel (c : scCo) (x z : Int) : Bool := match c with
  | .eq => decide (x = z)
  | .ne => !decide (x = z)
  | .lt => decide (x < z)
  | .ge => decide (z ≤ x)
  | .gt => decide (z < x)
  | .le => decide (x ≤ z)
theorem pvRel_t {c : scCo} {x z : Int} (h : pvRel c x z = true) : scRel c x z := by
  cases c <;> simpa [pvRel, scRel] using h
theorem pvRel_f {c : scCo} {x z : Int} (h : pvRel c x z = false) : scRel (scNeg c) x z := by
  cases c <;> simp [pvRel, scRel, scNeg] at h ⊢ <;> omega
theorem scRel_t {c : scCo} {x z : Int} (h : scRel c x z) : pvRel c x z = true := by
  cases c <;> simpa [pvRel, scRel] using h
theorem scRel_f {c : scCo} {x z : Int} (h : scRel (scNeg c) x z) : pvRel c x z = false := by
  cases c <;> simp [pvRel, scRel, scNeg] at h ⊢ <;> omega
theorem fm_icmp {T : fmT} {l : Launch} {G : fmG} {d : Nat} {y : fmY} {pc : Nat} {L : List (Option Value)} {st : List Value} {M : fmM} {Q : fmR → fmM → Prop} (c : scCo) {x z : Int32} {off : Int} {tgt : Nat} (ht : (pc : Int) + off = (tgt : Int)) (hdg : decode y.2.1 pc = .ok (.if_icmp c off, 3)) (kt : scRel c x.toInt z.toInt → fmEv T l G d y tgt L st M Q) (kf : scRel (scNeg c) x.toInt z.toInt → fmEv T l G d y (pc + 3) L st M Q) : fmEv T l G d y pc L (.int z :: .int x :: st) M Q := by
  cases c with
  | eq => exact fm_icmp_eq tgt ht hdg (fun h => kt (scq_eq.mp h)) (fun h => kf (fun e => h (scq_eq.mpr e)))
  | ne => exact fm_icmp_ne tgt ht hdg (fun h => kt (fun e => h (scq_eq.mpr e))) (fun h => kf (scq_eq.mp h))
  | lt => exact fm_icmp_lt tgt ht hdg (fun h => kt (sc_lt.mp h)) (fun h => kf (show z.toInt ≤ x.toInt by rw [sc_lt] at h; omega))
  | ge => exact fm_icmp_ge tgt ht hdg (fun h => kt (sc_le.mp h)) (fun h => kf (show x.toInt < z.toInt by rw [sc_le] at h; omega))
  | gt => exact fm_icmp_gt tgt ht hdg (fun h => kt (sc_lt.mp h)) (fun h => kf (show x.toInt ≤ z.toInt by rw [sc_lt] at h; omega))
  | le => exact fm_icmp_le tgt ht hdg (fun h => kt (sc_le.mp h)) (fun h => kf (show z.toInt < x.toInt by rw [sc_le] at h; omega))
theorem fm_ifc {T : fmT} {l : Launch} {G : fmG} {d : Nat} {y : fmY} {pc : Nat} {L : List (Option Value)} {st : List Value} {M : fmM} {Q : fmR → fmM → Prop} (c : scCo) {x : Int32} {off : Int} {tgt : Nat} (ht : (pc : Int) + off = (tgt : Int)) (hdg : decode y.2.1 pc = .ok (.ifCond c off, 3)) (kt : scRel c x.toInt 0 → fmEv T l G d y tgt L st M Q) (kf : scRel (scNeg c) x.toInt 0 → fmEv T l G d y (pc + 3) L st M Q) : fmEv T l G d y pc L (.int x :: st) M Q := by
  have z0 : (0 : Int32).toInt = 0 := by decide
  cases c with
  | eq => exact fm_if_eq tgt ht hdg (fun h => kt ((scq_eq.mp h).trans z0)) (fun h => kf (fun e => h (scq_eq.mpr (e.trans z0.symm))))
  | ne => exact fm_if_ne tgt ht hdg (fun h => kt (fun e => h (scq_eq.mpr (e.trans z0.symm)))) (fun h => kf ((scq_eq.mp h).trans z0))
  | lt => exact fm_if_lt tgt ht hdg (fun h => kt (show x.toInt < 0 by rw [sc_lt] at h; omega)) (fun h => kf (show 0 ≤ x.toInt by rw [sc_lt] at h; omega))
  | ge => exact fm_if_ge tgt ht hdg (fun h => kt (show 0 ≤ x.toInt by rw [sc_le] at h; omega)) (fun h => kf (show x.toInt < 0 by rw [sc_le] at h; omega))
  | gt => exact fm_if_gt tgt ht hdg (fun h => kt (show 0 < x.toInt by rw [sc_lt] at h; omega)) (fun h => kf (show x.toInt ≤ 0 by rw [sc_lt] at h; omega))
  | le => exact fm_if_le tgt ht hdg (fun h => kt (show x.toInt ≤ 0 by rw [sc_le] at h; omega)) (fun h => kf (show 0 < x.toInt by rw [sc_le] at h; omega))
abbrev pvS : Type := Nat × List (Option Value) × List Value × fmM
/-- a step's end: another state; the method's end; a call (method, arguments, where it goes on, with which stack) -/
abbrev pvO : Type := pvS ⊕ ((fmR × fmM) ⊕ (fmY × List Value × Nat × List Value))
def pvN (pc : Nat) (L : List (Option Value)) (st : List Value) (M : fmM) : Option pvO := some (.inl (pc, L, st, M))
def pvR (r : fmR) (M : fmM) : Option pvO := some (.inr (.inl (r, M)))
def pvI1 (f : Int32 → Int32) (pc : Nat) (L : List (Option Value)) (st : List Value) (M : fmM) : Option pvO := match st with
  | .int x :: st => pvN pc L (.int (f x) :: st) M
  | _ => none
def pvI2 (f : Int32 → Int32 → Int32) (pc : Nat) (L : List (Option Value)) (st : List Value) (M : fmM) : Option pvO := match st with
  | .int z :: .int x :: st => pvN pc L (.int (f x z) :: st) M
  | _ => none
def pvJ2 (f : Int64 → Int64 → Int64) (pc : Nat) (L : List (Option Value)) (st : List Value) (M : fmM) : Option pvO := match st with
  | .long z :: .long x :: st => pvN pc L (.long (f x z) :: st) M
  | _ => none
def pvJI (f : Int64 → Int32 → Int64) (pc : Nat) (L : List (Option Value)) (st : List Value) (M : fmM) : Option pvO := match st with
  | .int z :: .long x :: st => pvN pc L (.long (f x z) :: st) M
  | _ => none
def pvLoad (pc i t : Nat) (L : List (Option Value)) (st : List Value) (M : fmM) : Option pvO := match L.getD i none with
  | some (.int x) => if Nat.beq t 0 then pvN pc L (.int x :: st) M else none
  | some (.long x) => if Nat.beq t 1 then pvN pc L (.long x :: st) M else none
  | some (.ref x) => if Nat.beq t 2 then pvN pc L (.ref x :: st) M else none
  | _ => none
/-- a long whose second half is written is gone -/
def pvKill (L : List (Option Value)) (i : Nat) : List (Option Value) := match i with
  | 0 => L
  | j + 1 => if fmNo2 L (j + 1) then L else L.set j none
def pvStor (n pc i t : Nat) (L : List (Option Value)) (st : List Value) (M : fmM) : Option pvO := match st with
  | .int x :: st => if Nat.beq t 0 && Nat.blt i n then pvN pc ((pvKill L i).set i (some (.int x))) st M else none
  | .long x :: st => if Nat.beq t 1 && Nat.blt (i + 1) n then pvN pc (((pvKill L i).set i (some (.long x))).set (i + 1) none) st M else none
  | .ref x :: st => if Nat.beq t 2 && Nat.blt i n then pvN pc ((pvKill L i).set i (some (.ref x))) st M else none
  | _ => none
def pvBr (b : Bool) (pc : Nat) (off : Int) (L : List (Option Value)) (st : List Value) (M : fmM) : Option pvO := if decide (0 ≤ (pc : Int) + off) then (if b then pvN ((pc : Int) + off).toNat L st M else pvN (pc + 3) L st M) else none
def pvFd (own : String) (idx : Nat) : Option scFd := (pvLn (pvK own)).1.1.find? (fun f => Nat.beq f.1 idx)
def pvOb (T : fmT) (k : Nat) (f : scFd) : Bool := Nat.blt k T.1 && Nat.beq (T.2.1 k) (f.2.1 + 6) && Nat.blt f.2.2.1 (T.2.2.1 k)
def pvGet (T : fmT) (own : String) (pc idx : Nat) (L : List (Option Value)) (st : List Value) (M : fmM) : Option pvO := match st with
  | .ref k :: st => match pvFd own idx with
    | some f => if pvOb T k f then (match f.2.2.2.1 with
      | 0 => pvN pc L (.int (M.1 k f.2.2.1) :: st) M
      | 1 => pvN pc L (.long (M.2 k f.2.2.1) :: st) M
      | 2 => if Nat.blt (T.2.2.2 k f.2.2.1) 1000 then pvN pc L (.ref (T.2.2.2 k f.2.2.1) :: st) M else none
      | _ => none) else none
    | none => none
  | _ => none
def pvPut (T : fmT) (own : String) (pc idx : Nat) (L : List (Option Value)) (st : List Value) (M : fmM) : Option pvO := match st with
  | v :: .ref k :: st => match pvFd own idx with
    | some f => if pvOb T k f && f.2.2.2.2 then (match f.2.2.2.1, v with
      | 0, .int x => pvN pc L st (fmI M k f.2.2.1 x)
      | 1, .long x => pvN pc L st (fmJ M k f.2.2.1 x)
      | _, _ => none) else none
    | none => none
  | _ => none
def pvIx (T : fmT) (k kd : Nat) (i : Int32) : Bool := Nat.blt k T.1 && Nat.beq (T.2.1 k) kd && decide (0 ≤ i.toInt) && decide (i.toInt < (T.2.2.1 k : Int))
def pvAld (T : fmT) (kd pc : Nat) (L : List (Option Value)) (st : List Value) (M : fmM) : Option pvO := match st with
  | .int i :: .ref k :: st => if pvIx T k kd i then (match kd with
    | 1 => pvN pc L (.long (M.2 k i.toNatClampNeg) :: st) M
    | _ => pvN pc L (.int (M.1 k i.toNatClampNeg) :: st) M) else none
  | _ => none
def pvAst (T : fmT) (kd pc : Nat) (L : List (Option Value)) (st : List Value) (M : fmM) : Option pvO := match st with
  | v :: .int i :: .ref k :: st => if pvIx T k kd i then (match kd, v with
    | 0, .int x => pvN pc L st (fmI M k i.toNatClampNeg x)
    | 1, .long x => pvN pc L st (fmJ M k i.toNatClampNeg x)
    | 2, .int x => pvN pc L st (fmI M k i.toNatClampNeg (vp_nar .byte x))
    | _, _ => none) else none
  | _ => none
def pvAald (T : fmT) (pc : Nat) (L : List (Option Value)) (st : List Value) (M : fmM) : Option pvO := match st with
  | .int i :: .ref k :: st => if (pvIx T k 3 i || pvIx T k 4 i || pvIx T k 5 i) && Nat.blt (T.2.2.2 k i.toNatClampNeg) 1000 then pvN pc L (.ref (T.2.2.2 k i.toNatClampNeg) :: st) M else none
  | _ => none
def pvAlen (T : fmT) (pc : Nat) (L : List (Option Value)) (st : List Value) (M : fmM) : Option pvO := match st with
  | .ref k :: st => if Nat.blt k T.1 && (Nat.beq (T.2.1 k) 0 || Nat.beq (T.2.1 k) 1) then pvN pc L (.int (Int32.ofNat (T.2.2.1 k)) :: st) M else none
  | _ => none
def pvKc (own : String) (idx : Nat) : Option (Nat × (Int32 ⊕ Int64)) := (pvLn (pvK own)).1.2.1.find? (fun q => Nat.beq q.1 idx)
def pvTx (own : String) (idx : Nat) : Option (Nat × Nat) := (pvLn (pvK own)).2.find? (fun q => Nat.beq q.1 idx)
def pvMm (own : String) (idx : Nat) : Option (Nat × Bool) := (pvLn (pvK own)).1.2.2.2.1.find? (fun q => Nat.beq q.1 idx)
def pvMl (own : String) (idx : Nat) : Option (Nat × Bool) := (pvLn (pvK own)).1.2.2.2.2.find? (fun q => Nat.beq q.1 idx)
def pvCp (own : String) (idx : Nat) : Bool := (pvLn (pvK own)).1.2.2.1.any (fun q => Nat.beq q idx)
def pvCq (own : String) (idx : Nat) : Option pvCl := (pvCa (pvK own)).find? (fun q => Nat.beq q.1 idx)
def pvCat (st : List Value) : Nat := (st.map fun v => v.category).sum
def pvLdc (own : String) (pc idx : Nat) (L : List (Option Value)) (st : List Value) (M : fmM) : Option pvO := match pvKc own idx with
  | some (_, .inl v) => pvN pc L (.int v :: st) M
  | some _ => none
  | none => match pvTx own idx with
    | some q => pvN pc L (.ref (1000 + q.2) :: st) M
    | none => none
def pvLdcw (own : String) (pc idx : Nat) (L : List (Option Value)) (st : List Value) (M : fmM) : Option pvO := match pvKc own idx with
  | some (_, .inl v) => pvN pc L (.int v :: st) M
  | _ => none
def pvLdc2 (own : String) (pc idx : Nat) (L : List (Option Value)) (st : List Value) (M : fmM) : Option pvO := match pvKc own idx with
  | some (_, .inr v) => pvN pc L (.long v :: st) M
  | _ => none
def pvCopy (T : fmT) (pc : Nat) (L : List (Option Value)) (st : List Value) (M : fmM) : Option pvO := match st with
  | .int n :: .int dp :: .ref k1 :: .int sp :: .ref k0 :: st => if Nat.blt k0 T.1 && Nat.beq (T.2.1 k0) 0 && Nat.blt k1 T.1 && Nat.beq (T.2.1 k1) 0 && decide (0 ≤ sp.toInt) && decide (0 ≤ dp.toInt) && decide (0 ≤ n.toInt) && Nat.ble (sp.toNatClampNeg + n.toNatClampNeg) (T.2.2.1 k0) && Nat.ble (dp.toNatClampNeg + n.toNatClampNeg) (T.2.2.1 k1) && Nat.ble (pvCat st) 60 then pvN pc L st (fmA M k1 (va_cpy (M.1 k0) (M.1 k1) sp.toNatClampNeg dp.toNatClampNeg n.toNatClampNeg)) else none
  | _ => none
def pvCal (T : fmT) (d pc : Nat) (L : List (Option Value)) (st : List Value) (M : fmM) (stat : Bool) (q : pvCl) : Option pvO := if Nat.ble q.2.2.2.1 st.length then (match q.2.1, stat with
  | 0, false => match st.drop q.2.2.2.1 with
    | .ref k :: st' => if Nat.blt k T.1 && Nat.beq (T.2.1 k) (q.2.2.1 + 6) && Nat.ble (pvCat st') 8 then some (.inr (.inr (q.2.2.2.2, .ref k :: (st.take q.2.2.2.1).reverse, pc, st'))) else none
    | _ => none
  | 1, true => if Nat.ble (pvCat (st.drop q.2.2.2.1)) 8 then some (.inr (.inr (q.2.2.2.2, (st.take q.2.2.2.1).reverse, pc, st.drop q.2.2.2.1))) else none
  | 2, false => match st with
    | .ref r :: st' => if Nat.ble 1000 r && Nat.blt (r - 1000) 5 && Nat.ble 2 d && Nat.ble (pvCat st') 8 then pvN pc L (.int (nI (fmLen.getD (r - 1000) 0)) :: st') M else none
    | _ => none
  | 3, false => match st with
    | .int x :: .ref r :: st' => if Nat.ble 1000 r && Nat.blt (r - 1000) 5 && Nat.ble 4 d && Nat.ble (pvCat st') 8 && decide (0 ≤ x.toInt) && decide (x.toInt < (fmLen.getD (r - 1000) 0 : Int)) then pvN pc L (.int (chE (r - 1000) x.toNatClampNeg) :: st') M else none
    | _ => none
  | _, _ => none) else none
def pvVirt (T : fmT) (d : Nat) (own : String) (pc idx : Nat) (L : List (Option Value)) (st : List Value) (M : fmM) : Option pvO := match pvCq own idx with
  | some q => pvCal T d pc L st M false q
  | none => none
def pvStat (T : fmT) (d : Nat) (own : String) (pc idx : Nat) (L : List (Option Value)) (st : List Value) (M : fmM) : Option pvO := match pvMm own idx with
  | some q => match st with
    | .int z :: .int x :: st => if Nat.ble 1 d && Nat.ble (pvCat st) 8 then pvN pc L (.int (pvMx q.2 x z) :: st) M else none
    | _ => none
  | none => if pvCp own idx then pvCopy T pc L st M else (match pvMl own idx with
    | some q => match st with
      | .long z :: .long x :: st => if Nat.ble 1 d && Nat.ble (pvCat st) 8 then pvN pc L (.long (pvMxl q.2 x z) :: st) M else none
      | _ => none
    | none => match pvCq own idx with
      | some q => pvCal T d pc L st M true q
      | none => none)
def pvThr (y : fmY) (pc idx : Nat) (st : List Value) (M : fmM) : Option pvO := match st with
  | [] => if Nat.beq (pvK y.1.cls) 10 && decide (decode y.2.1 (pc + 3) = .ok (.dup, 1)) && decide (decode y.2.1 (pc + 10) = .ok (.athrow, 1)) then (if Nat.beq idx 376 && decide (decode y.2.1 (pc + 4) = .ok (.ldc_w 378, 3)) && decide (decode y.2.1 (pc + 7) = .ok (.invokespecial 380, 3)) then pvR (.inr fmIAE) M else if Nat.beq idx 369 && decide (decode y.2.1 (pc + 4) = .ok (.ldc_w 371, 3)) && decide (decode y.2.1 (pc + 7) = .ok (.invokespecial 373, 3)) then pvR (.inr fmNSE) M else none) else none
  | _ => none
def pvRetI (rt : Option FieldType) (v : Int32) (M : fmM) : Option pvO := match rt with
  | some .int => pvR (.inl (some (.int v))) M
  | some .boolean => if decide (v = 0) || decide (v = 1) then pvR (.inl (some (.int v))) M else none
  | _ => none
def pvStp (T : fmT) (d : Nat) (y : fmY) (pc : Nat) (i : Instr) (L : List (Option Value)) (st : List Value) (M : fmM) : Option pvO := match i with
  | .iconst n => pvN (pc + 1) L (.int (Int32.ofInt n) :: st) M
  | .bipush n => pvN (pc + 2) L (.int (Int8.ofInt n).toInt32 :: st) M
  | .sipush n => pvN (pc + 3) L (.int (Int16.ofInt n).toInt32 :: st) M
  | .lconst n => pvN (pc + 1) L (.long (Int64.ofNat (n : Nat)) :: st) M
  | .iload_n n => pvLoad (pc + 1) (n : Nat) 0 L st M
  | .iload n => pvLoad (pc + 2) n 0 L st M
  | .lload_n n => pvLoad (pc + 1) (n : Nat) 1 L st M
  | .lload n => pvLoad (pc + 2) n 1 L st M
  | .aload_n n => pvLoad (pc + 1) (n : Nat) 2 L st M
  | .aload n => pvLoad (pc + 2) n 2 L st M
  | .istore_n n => pvStor y.2.2.1 (pc + 1) (n : Nat) 0 L st M
  | .istore n => pvStor y.2.2.1 (pc + 2) n 0 L st M
  | .lstore_n n => pvStor y.2.2.1 (pc + 1) (n : Nat) 1 L st M
  | .lstore n => pvStor y.2.2.1 (pc + 2) n 1 L st M
  | .astore_n n => pvStor y.2.2.1 (pc + 1) (n : Nat) 2 L st M
  | .astore n => pvStor y.2.2.1 (pc + 2) n 2 L st M
  | .iinc n v => match L.getD n none with
    | some (.int x) => if Nat.blt n y.2.2.1 then pvN (pc + 3) ((pvKill L n).set n (some (.int (x + Int32.ofInt v)))) st M else none
    | _ => none
  | .iadd => pvI2 (fun x z => x + z) (pc + 1) L st M
  | .isub => pvI2 (fun x z => x - z) (pc + 1) L st M
  | .imul => pvI2 (fun x z => x * z) (pc + 1) L st M
  | .idiv => match st with
    | .int z :: .int x :: st => if z = 0 then none else pvN (pc + 1) L (.int (x / z) :: st) M
    | _ => none
  | .irem => match st with
    | .int z :: .int x :: st => if z = 0 then none else pvN (pc + 1) L (.int (x - x / z * z) :: st) M
    | _ => none
  | .iand => pvI2 (fun x z => x &&& z) (pc + 1) L st M
  | .ior => pvI2 (fun x z => x ||| z) (pc + 1) L st M
  | .ixor => pvI2 (fun x z => x ^^^ z) (pc + 1) L st M
  | .ishl => pvI2 (fun x z => x <<< (z &&& 31)) (pc + 1) L st M
  | .ishr => pvI2 (fun x z => x >>> (z &&& 31)) (pc + 1) L st M
  | .iushr => pvI2 (fun x z => (x.toUInt32 >>> (z.toUInt32 &&& Int32.toUInt32 31)).toInt32) (pc + 1) L st M
  | .ineg => pvI1 (fun x => -x) (pc + 1) L st M
  | .i2b => pvI1 (fun x => x.toInt8.toInt32) (pc + 1) L st M
  | .i2l => match st with
    | .int x :: st => pvN (pc + 1) L (.long x.toInt64 :: st) M
    | _ => none
  | .l2i => match st with
    | .long x :: st => pvN (pc + 1) L (.int x.toInt32 :: st) M
    | _ => none
  | .ladd => pvJ2 (fun x z => x + z) (pc + 1) L st M
  | .lsub => pvJ2 (fun x z => x - z) (pc + 1) L st M
  | .lmul => pvJ2 (fun x z => x * z) (pc + 1) L st M
  | .land => pvJ2 (fun x z => x &&& z) (pc + 1) L st M
  | .lor => pvJ2 (fun x z => x ||| z) (pc + 1) L st M
  | .lxor => pvJ2 (fun x z => x ^^^ z) (pc + 1) L st M
  | .ldiv => match st with
    | .long z :: .long x :: st => if z = 0 then none else pvN (pc + 1) L (.long (x / z) :: st) M
    | _ => none
  | .lrem => match st with
    | .long z :: .long x :: st => if z = 0 then none else pvN (pc + 1) L (.long (x - x / z * z) :: st) M
    | _ => none
  | .lshl => pvJI (fun x z => x <<< (z.toInt64 &&& 63)) (pc + 1) L st M
  | .lshr => pvJI (fun x z => x >>> (z.toInt64 &&& 63)) (pc + 1) L st M
  | .lcmp => match st with
    | .long z :: .long x :: st => pvN (pc + 1) L (.int (lg_cmp x z) :: st) M
    | _ => none
  | .dup => match st with
    | v :: st => if v.category = 1 then pvN (pc + 1) L (v :: v :: st) M else none
    | _ => none
  | .dup2 => match st with
    | .long x :: st => pvN (pc + 1) L (.long x :: .long x :: st) M
    | v :: u :: st => if v.category = 1 ∧ u.category = 1 then pvN (pc + 1) L (v :: u :: v :: u :: st) M else none
    | _ => none
  | .dup_x1 => match st with
    | v :: u :: st => if v.category = 1 ∧ u.category = 1 then pvN (pc + 1) L (v :: u :: v :: st) M else none
    | _ => none
  | .pop => match st with
    | v :: st => if v.category = 1 then pvN (pc + 1) L st M else none
    | _ => none
  | .goto off => if decide (0 ≤ (pc : Int) + off) then pvN ((pc : Int) + off).toNat L st M else none
  | .ifCond c off => match st with
    | .int x :: st => pvBr (pvRel c x.toInt 0) pc off L st M
    | _ => none
  | .if_icmp c off => match st with
    | .int z :: .int x :: st => pvBr (pvRel c x.toInt z.toInt) pc off L st M
    | _ => none
  | .getfield idx => pvGet T y.1.cls (pc + 3) idx L st M
  | .putfield idx => pvPut T y.1.cls (pc + 3) idx L st M
  | .iaload => pvAld T 0 (pc + 1) L st M
  | .laload => pvAld T 1 (pc + 1) L st M
  | .baload => pvAld T 2 (pc + 1) L st M
  | .iastore => pvAst T 0 (pc + 1) L st M
  | .lastore => pvAst T 1 (pc + 1) L st M
  | .bastore => pvAst T 2 (pc + 1) L st M
  | .aaload => pvAald T (pc + 1) L st M
  | .arraylength => pvAlen T (pc + 1) L st M
  | .ldc idx => pvLdc y.1.cls (pc + 2) idx L st M
  | .ldc_w idx => pvLdcw y.1.cls (pc + 3) idx L st M
  | .ldc2_w idx => pvLdc2 y.1.cls (pc + 3) idx L st M
  | .tableswitch dflt lo hi offs => match st with
    | .int x :: st => if decide (offs.size = (hi - lo + 1).toNat) && decide (0 ≤ fmTsw pc dflt lo hi offs x) then pvN (fmTsw pc dflt lo hi offs x).toNat L st M else none
    | _ => none
  | .lookupswitch dflt ps => match st with
    | .int x :: st => if (ps.toList.zip (ps.toList.drop 1)).all (fun (a, next) => a.1 < next.1) && decide (0 ≤ (pc : Int) + Op.lookupswitch.offset ps.toList dflt x.toInt) then pvN ((pc : Int) + Op.lookupswitch.offset ps.toList dflt x.toInt).toNat L st M else none
    | _ => none
  | .invokevirtual idx => pvVirt T d y.1.cls (pc + 3) idx L st M
  | .invokestatic idx => pvStat T d y.1.cls (pc + 3) idx L st M
  | .new idx => pvThr y pc idx st M
  | .ireturn => match st with
    | [.int v] => pvRetI y.2.2.2 v M
    | _ => none
  | .lreturn => match st with
    | [.long v] => if y.2.2.2 = some .long then pvR (.inl (some (.long v))) M else none
    | _ => none
  | .return_ => match st with
    | [] => if y.2.2.2 = none then pvR (.inl none) M else none
    | _ => none
  | _ => none
def scLen (i : Instr) : Nat := match i with
  | .aload _ | .iload _ | .lload _ | .astore _ | .istore _ | .lstore _ | .bipush _ | .ldc _ => 2
  | .sipush _ | .iinc _ _ | .getfield _ | .putfield _ | .goto _ | .ifCond _ _ | .if_icmp _ _ | .invokestatic _ | .invokevirtual _ | .ldc_w _ | .ldc2_w _ | .new _ => 3
  | _ => 1
def pvSw (i : Instr) : Bool := match i with
  | .tableswitch _ _ _ _ => true
  | .lookupswitch _ _ => true
  | _ => false
def pvEnt (y : fmY) (args : List Value) : List (Option Value) := fmArgs args ++ List.replicate (y.2.2.1 - (fmArgs args).length) none
def pvX (T : fmT) : Nat → Nat → fmY → Nat → List (Option Value) → List Value → fmM → Option (fmR × fmM)
  | 0, _, _, _, _, _, _ => none
  | n + 1, d, y, pc, L, st, M => match decode y.2.1 pc with
    | .ok (i, len) => if pvSw i || Nat.beq len (scLen i) then (match pvStp T d y pc i L st M with
      | some (.inl q) => pvX T n d y q.1 q.2.1 q.2.2.1 q.2.2.2
      | some (.inr (.inl r)) => some r
      | some (.inr (.inr q)) => match d with
        | 0 => none
        | d' + 1 => if Nat.ble (lg_sl q.2.1).length q.1.2.2.1 then (match pvX T n d' q.1 0 (pvEnt q.1 q.2.1) [] M with
          | some (.inl v, M1) => pvX T n (d' + 1) y q.2.2.1 L (v.toList ++ q.2.2.2) M1
          | some (.inr E, M1) => some (.inr E, M1)
          | none => none) else none
      | none => none) else none
    | .error _ => none
