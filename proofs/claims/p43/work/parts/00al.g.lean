-- P 10gf
section
-- THE CHECKER: one instruction
/-- tables, bounds, links (and texts), calls, the contract -/
abbrev scX : Type := fmT × (Nat → List scI) × (scLn × List (Nat × Nat)) × List scCl × scC
abbrev scRes : Type := Option (List (Nat × scS))
def scOne (pc : Nat) (s : scS) : scRes := some [(pc, s)]
def scPush (pc : Nat) (s : scS) (S : List scV) (r : scR) : scRes := some [(pc, (r.2, s.2.1, .inl r.1 :: S, s.2.2.2))]
def scVals (pc : Nat) (s : scS) (S : List scV) : scRes := some [(pc, (s.1, s.2.1, S, s.2.2.2))]
def scFact (F : List scF) (k j : Nat) : Option scF := F.find? (fun f => f.1.1 == k && f.1.2 == j)
def scOut (X : scX) (ent : Bool) (env : List scI) (F : List scF) (kind : Nat) (e : scI) : Bool := X.2.2.2.2.2.2.2.2.2.1.any (fun o => Nat.beq o.1 kind && scSub e o.2.1 && (ent || o.2.2.2.1.isEmpty) && o.2.2.2.1.all (fun q => Nat.blt q.1 X.2.2.2.2.2.2.1.length && scSub (env.getD q.1 scTop) q.2) && o.2.2.2.2.all (fun q => Nat.blt q.1.2 (X.1.2.2.1 q.1.1) && scSub (match scFact F q.1.1 q.1.2 with
  | some f => scIv env f.2
  | none => scAt (X.2.1 q.1.1) q.1.2) q.2))
/-- a relation, in one or two pieces: what is all unknown and unlike 0 is below or above it -/
def scCutL (c : scCo) (env : List scI) (a b : scA) : List (List scI) := if decide (c = .ne) && decide (scIv env b = (0, 0)) && decide (scIv env a = scTop) then (scCut env a (-2147483648) (-1)).toList ++ (scCut env a 1 2147483647).toList else (scCutC c env a b).toList
def scCond (pc : Nat) (c : scCo) (off : Int) (s : scS) (S : List scV) (a b : scA) : scRes := if decide (0 ≤ (pc : Int) + off) then some ((scCutL c s.1 a b).map (fun e => (((pc : Int) + off).toNat, ((e, s.2.1, S, s.2.2.2) : scS))) ++ (scCutL (scNeg c) s.1 a b).map (fun e => (pc + 3, ((e, s.2.1, S, s.2.2.2) : scS)))) else none
def scNo2 (Λ : List (Option scV)) (i : Nat) : Bool := match i with
  | 0 => true
  | j + 1 => match Λ.getD j none with
    | some (.inr (.inl _)) => false
    | _ => true
def scLoad (pc : Nat) (s : scS) (i : Nat) (t : Nat) : scRes := match s.2.1.getD i none with
  | some (.inl a) => if Nat.beq t 0 then scVals pc s (.inl a :: s.2.2.1) else none
  | some (.inr (.inl o)) => if Nat.beq t 1 then scVals pc s (.inr (.inl o) :: s.2.2.1) else none
  | some (.inr (.inr r)) => if Nat.beq t 2 then scVals pc s (.inr (.inr r) :: s.2.2.1) else none
  | none => none
def scStor (n pc : Nat) (s : scS) (i : Nat) (t : Nat) : scRes := if scNo2 s.2.1 i then (match s.2.2.1 with
  | .inl a :: S => if Nat.beq t 0 && Nat.blt i n then scOne pc (s.1, s.2.1.set i (some (.inl a)), S, s.2.2.2) else none
  | .inr (.inl o) :: S => if Nat.beq t 1 && Nat.blt (i + 1) n then scOne pc (s.1, (s.2.1.set i (some (.inr (.inl o)))).set (i + 1) none, S, s.2.2.2) else none
  | .inr (.inr r) :: S => if Nat.beq t 2 && Nat.blt i n then scOne pc (s.1, s.2.1.set i (some (.inr (.inr r))), S, s.2.2.2) else none
  | [] => none) else none
def scBin (pc : Nat) (s : scS) (f : List scI → scA → scA → scR) : scRes := match s.2.2.1 with
  | .inl b :: .inl a :: S => scPush pc s S (f s.1 a b)
  | _ => none
def scBinT (pc : Nat) (s : scS) : scRes := match s.2.2.1 with
  | .inl _ :: .inl _ :: S => scPush pc s S (scNew s.1 scTop)
  | _ => none
def scLmul (e f : scI) : scI := if decide (0 ≤ e.1) && decide (0 ≤ f.1) && decide (e.2 * f.2 ≤ 9223372036854775807) then (e.1 * f.1, e.2 * f.2) else scTopL
def scLong2 (pc : Nat) (s : scS) : scRes := match s.2.2.1 with
  | .inr (.inl _) :: .inr (.inl _) :: S => scVals pc s (.inr (.inl scTopL) :: S)
  | _ => none
def scCells (T : fmT) (ks : List Nat) (kd n : Nat) : Bool := ks.all (fun k => Nat.blt k T.1 && Nat.beq (T.2.1 k) kd && Nat.blt n (T.2.2.1 k))
def scRd (X : scX) (pc : Nat) (s : scS) (S : List scV) (ks : List Nat) (a n : Nat) : scRes := match ks, n with
  | [k], 0 => some [(pc, ((scRead X.2.1 s.1 s.2.2.2 k a).1.2, s.2.1, .inl (scRead X.2.1 s.1 s.2.2.2 k a).1.1 :: S, (scRead X.2.1 s.1 s.2.2.2 k a).2))]
  | ks, n => scPush pc s S (scNew s.1 (scRgs X.2.1 a n ks))
def scW (X : scX) : List (Nat × Nat × Nat) := X.2.2.2.2.2.2.2.2.2.2
def scWt (X : scX) (pc : Nat) (s : scS) (S : List scV) (ks : List Nat) (a n : Nat) (e : scI) (v : Option scA) : scRes := if scWr X.2.1 (scW X) ks a n e then scOne pc (s.1, s.2.1, S, match ks, n, v with
  | [k], 0, some v => ((k, a), v) :: scKl s.2.2.2 ks a n
  | _, _, _ => scKl s.2.2.2 ks a n) else none
def scGet (X : scX) (pc : Nat) (s : scS) (idx : Nat) : scRes := match s.2.2.1 with
  | .inr (.inr (.inl ks)) :: S => match X.2.2.1.1.1.find? (fun f => Nat.beq f.1 idx) with
    | some f => if scCells X.1 ks (f.2.1 + 6) f.2.2.1 then (match f.2.2.2.1 with
      | 0 => scRd X pc s S ks f.2.2.1 0
      | 1 => scVals pc s (.inr (.inl scTopL) :: S)
      | 2 => if ks.all (fun k => Nat.blt (X.1.2.2.2 k f.2.2.1) 1000) then scVals pc s (.inr (.inr (.inl (ks.map (fun k => X.1.2.2.2 k f.2.2.1)))) :: S) else none
      | _ => none) else none
    | none => none
  | _ => none
def scPut (X : scX) (pc : Nat) (s : scS) (idx : Nat) : scRes := match s.2.2.1 with
  | v :: .inr (.inr (.inl ks)) :: S => match X.2.2.1.1.1.find? (fun f => Nat.beq f.1 idx) with
    | some f => if scCells X.1 ks (f.2.1 + 6) f.2.2.1 && f.2.2.2.2 then (match f.2.2.2.1, v with
      | 0, .inl a => scWt X pc s S ks f.2.2.1 0 (scIv s.1 a) (some a)
      | 1, .inr (.inl _) => if ks.all (fun k => scWin (scW X) k f.2.2.1 0) then scVals pc s S else none
      | _, _ => none) else none
    | none => none
  | _ => none
/-- the first place and how many more, of an index -/
def scIx (e : scI) : Nat × Nat := (e.1.toNat, (e.2 - e.1).toNat)
def scInx (T : fmT) (ks : List Nat) (kd : Nat) (e : scI) : Bool := decide (0 ≤ e.1) && ks.all (fun k => Nat.blt k T.1 && Nat.beq (T.2.1 k) kd && decide (e.2 < T.2.2.1 k))
def scAld (X : scX) (pc : Nat) (s : scS) (kd : Nat) : scRes := match s.2.2.1 with
  | .inl a :: .inr (.inr (.inl ks)) :: S => if scInx X.1 ks kd (scIv s.1 a) then (match kd with
    | 1 => scVals pc s (.inr (.inl scTopL) :: S)
    | _ => scRd X pc s S ks (scIx (scIv s.1 a)).1 (scIx (scIv s.1 a)).2) else none
  | _ => none
def scAst (X : scX) (pc : Nat) (s : scS) (kd : Nat) : scRes := match s.2.2.1 with
  | v :: .inl a :: .inr (.inr (.inl ks)) :: S => if scInx X.1 ks kd (scIv s.1 a) then (match kd, v with
    | 0, .inl v => scWt X pc s S ks (scIx (scIv s.1 a)).1 (scIx (scIv s.1 a)).2 (scIv s.1 v) (some v)
    | 2, .inl _ => scWt X pc s S ks (scIx (scIv s.1 a)).1 (scIx (scIv s.1 a)).2 (-128, 127) none
    | 1, .inr (.inl _) => if ks.all (fun k => scWin (scW X) k (scIx (scIv s.1 a)).1 (scIx (scIv s.1 a)).2) then scVals pc s S else none
    | _, _ => none) else none
  | _ => none
def scAald (X : scX) (pc : Nat) (s : scS) : scRes := match s.2.2.1 with
  | .inl a :: .inr (.inr (.inl ks)) :: S => if decide (0 ≤ (scIv s.1 a).1) && ks.all (fun k => Nat.blt k X.1.1 && Nat.ble 3 (X.1.2.1 k) && Nat.ble (X.1.2.1 k) 5 && decide ((scIv s.1 a).2 < X.1.2.2.1 k)) && ks.all (fun k => (List.range ((scIx (scIv s.1 a)).2 + 1)).all (fun q => Nat.blt (X.1.2.2.2 k ((scIx (scIv s.1 a)).1 + q)) 1000)) then scVals pc s (.inr (.inr (.inl (ks.flatMap (fun k => (List.range ((scIx (scIv s.1 a)).2 + 1)).map (fun q => X.1.2.2.2 k ((scIx (scIv s.1 a)).1 + q)))))) :: S) else none
  | _ => none
def scAlen (X : scX) (pc : Nat) (s : scS) : scRes := match s.2.2.1 with
  | .inr (.inr (.inl (k :: ks))) :: S => if (k :: ks).all (fun q => Nat.blt q X.1.1 && Nat.ble (X.1.2.1 q) 1 && Nat.beq (X.1.2.2.1 q) (X.1.2.2.1 k)) && Nat.blt (X.1.2.2.1 k) 100000 then scVals pc s (.inl (none, (X.1.2.2.1 k : Int)) :: S) else none
  | _ => none
def scCat (S : List scV) : Nat := match S with
  | [] => 0
  | .inr (.inl _) :: S => 2 + scCat S
  | _ :: S => 1 + scCat S
/-- an end of a call, at the caller's -/
def scCutR (B : scB) : List (Nat × scI) → List scI → Option (List scI)
  | [], env => some env
  | q :: qs, env => match B.getD q.1 none with
    | some b => (scCut env b q.2.1 q.2.2).bind (scCutR B qs)
    | none => scCutR B qs env
def scMem : List ((Nat × Nat) × scI) → List scI → List scF → Option (List scI × List scF)
  | [], env, F => some (env, F)
  | q :: qs, env, F => match scFact F q.1.1 q.1.2 with
    | some f => (scCut env f.2 q.2.1 q.2.2).bind (fun e => scMem qs e F)
    | none => scMem qs (env ++ [q.2]) ((q.1, (some env.length, 0)) :: F)
def scKlW (W : List (Nat × Nat × Nat)) (F : List scF) : List scF := F.filter (fun f => !(scIn W f.1.1 f.1.2))
def scAft (W : List (Nat × Nat × Nat)) (r : List scI × List scF × scB) (o : scO) : Option (List scI × List scF) := (scCutR r.2.2 o.2.2.2.1 r.1).bind (fun env => scMem o.2.2.2.2 env (scKlW W r.2.1))
def scEnds (X : scX) (ent : Bool) (pc : Nat) (s : scS) (S : List scV) (W : List (Nat × Nat × Nat)) (r : List scI × List scF × scB) : List scO → scRes
  | [] => some []
  | o :: os => match scAft W r o with
    | none => scEnds X ent pc s S W r os
    | some q => match o.1 with
      | 0 => (scEnds X ent pc s S W r os).map (fun l => (pc, (q.1, s.2.1, S, q.2)) :: l)
      | 1 => (scEnds X ent pc s S W r os).map (fun l => (pc, (q.1 ++ [o.2.1], s.2.1, .inl (some q.1.length, 0) :: S, q.2)) :: l)
      | 2 => (scEnds X ent pc s S W r os).map (fun l => (pc, (q.1, s.2.1, .inr (.inl o.2.1) :: S, q.2)) :: l)
      | 4 => if scOut X ent q.1 q.2 4 o.2.1 then scEnds X ent pc s S W r os else none
      | 5 => if scOut X ent q.1 q.2 5 o.2.1 then scEnds X ent pc s S W r os else none
      | _ => none
def scArgs (S : List scV) (n : Nat) : List scV := (S.take n).reverse
def scRecv (T : fmT) (kind ci : Nat) (as : List scV) : Bool := match kind with
  | 0 => match as with
    | .inr (.inr (.inl ks)) :: _ => ks.all (fun k => Nat.blt k T.1 && Nat.beq (T.2.1 k) (ci + 6))
    | _ => false
  | 1 => true
  | _ => false
def scTry (X : scX) (s : scS) (q : scCl) : Option (List scI × List scF × scB) := if Nat.ble q.2.2.2.2.2.2.1.length s.2.2.1.length && Nat.ble (q.2.2.2.2.1 + 1) X.2.2.2.2.2.1 && Nat.ble (scCat (s.2.2.1.drop q.2.2.2.2.2.2.1.length)) 8 && q.2.2.2.2.2.2.2.2.2.all (fun w => scWin (scW X) w.1 w.2.1 (w.2.2 - 1) && Nat.blt 0 w.2.2) && scRecv X.1 q.2.1 q.2.2.1 (scArgs s.2.2.1 q.2.2.2.2.2.2.1.length) then scInc X.1 X.2.1 (s.1, [], scArgs s.2.2.1 q.2.2.2.2.2.2.1.length, s.2.2.2) (q.2.2.2.2.2.1, [], q.2.2.2.2.2.2.1, q.2.2.2.2.2.2.2.1) else none
def scCall (X : scX) (ent : Bool) (pc : Nat) (s : scS) (idx kind : Nat) : List scCl → scRes
  | [] => none
  | q :: qs => if Nat.beq q.1 idx && Nat.beq q.2.1 kind then (match scTry X s q with
    | some r => scEnds X ent pc s (s.2.2.1.drop q.2.2.2.2.2.2.1.length) q.2.2.2.2.2.2.2.2.2 r q.2.2.2.2.2.2.2.2.1
    | none => scCall X ent pc s idx kind qs) else scCall X ent pc s idx kind qs
def scMax (x z : scI) : scI := (if x.1 ≤ z.1 then z.1 else x.1, if x.2 ≤ z.2 then z.2 else x.2)
def scMin (x z : scI) : scI := (if x.1 ≤ z.1 then x.1 else z.1, if x.2 ≤ z.2 then x.2 else z.2)
def scMmx (X : scX) (pc : Nat) (s : scS) (b : Bool) : scRes := match s.2.2.1 with
  | .inl z :: .inl x :: S => if Nat.ble 1 X.2.2.2.2.2.1 && Nat.ble (scCat S) 8 then scPush pc s S (scNew s.1 (if b then scMax (scIv s.1 x) (scIv s.1 z) else scMin (scIv s.1 x) (scIv s.1 z))) else none
  | _ => none
def scCpy (X : scX) (pc : Nat) (s : scS) : scRes := match s.2.2.1 with
  | .inl n :: .inl dp :: .inr (.inr (.inl k1)) :: .inl sp :: .inr (.inr (.inl k0)) :: S => if decide (scIv s.1 dp = (0, 0)) && decide (scIv s.1 sp = (0, 0)) && decide (1 ≤ (scIv s.1 n).1) && decide ((scIv s.1 n).1 = (scIv s.1 n).2) && Nat.ble (scCat S) 8 && k0.all (fun k => Nat.blt k X.1.1 && Nat.beq (X.1.2.1 k) 0 && Nat.ble (scIv s.1 n).1.toNat (X.1.2.2.1 k)) && k1.all (fun k => Nat.blt k X.1.1 && Nat.beq (X.1.2.1 k) 0 && Nat.ble (scIv s.1 n).1.toNat (X.1.2.2.1 k) && scWin (scW X) k 0 ((scIv s.1 n).1.toNat - 1) && scFree X.2.1 k 0 ((scIv s.1 n).1.toNat - 1) && k0.all (fun h => (List.range (scIv s.1 n).1.toNat).all (fun j => scSub (scAt (X.2.1 h) j) (scAt (X.2.1 k) j)))) then scOne pc (s.1, s.2.1, S, scKl s.2.2.2 k1 0 ((scIv s.1 n).1.toNat - 1)) else none
  | _ => none
def scLl (X : scX) (pc : Nat) (s : scS) : scRes := match s.2.2.1 with
  | .inr (.inl _) :: .inr (.inl _) :: S => if Nat.ble 1 X.2.2.2.2.2.1 && Nat.ble (scCat S) 8 then scVals pc s (.inr (.inl scTopL) :: S) else none
  | _ => none
/-- a text's length, a text's sign -/
def scStr (X : scX) (pc : Nat) (s : scS) (idx : Nat) : scRes := match X.2.2.2.1.find? (fun q => Nat.beq q.1 idx && (Nat.beq q.2.1 2 || Nat.beq q.2.1 3)) with
  | some q => match q.2.1 with
    | 2 => match s.2.2.1 with
      | .inr (.inr (.inr t)) :: S => if Nat.blt t 5 && Nat.ble 2 X.2.2.2.2.2.1 && Nat.ble (scCat S) 8 then scVals pc s (.inl (none, (nI (fmLen.getD t 0)).toInt) :: S) else none
      | _ => none
    | 3 => match s.2.2.1 with
      | .inl a :: .inr (.inr (.inr t)) :: S => if Nat.blt t 5 && Nat.ble 4 X.2.2.2.2.2.1 && Nat.ble (scCat S) 8 && decide (0 ≤ (scIv s.1 a).1) && decide ((scIv s.1 a).1 = (scIv s.1 a).2) && decide ((scIv s.1 a).2 < (fmLen.getD t 0 : Int)) then scVals pc s (.inl (none, (chE t (scIv s.1 a).1.toNat).toInt) :: S) else none
      | _ => none
    | _ => none
  | none => none
def scStat (X : scX) (ent : Bool) (pc : Nat) (s : scS) (idx : Nat) : scRes := match X.2.2.1.1.2.2.2.1.find? (fun q => Nat.beq q.1 idx) with
  | some q => scMmx X pc s q.2
  | none => if X.2.2.1.1.2.2.1.any (fun q => Nat.beq q idx) then scCpy X pc s else if X.2.2.1.1.2.2.2.2.any (fun q => Nat.beq q.1 idx) then scLl X pc s else scCall X ent pc s idx 1 X.2.2.2.1
def scLdc (X : scX) (pc : Nat) (s : scS) (idx : Nat) (t : Nat) : scRes := match X.2.2.1.1.2.1.find? (fun q => Nat.beq q.1 idx) with
  | some (_, .inl v) => if Nat.beq t 0 then scVals pc s (.inl (none, v.toInt) :: s.2.2.1) else none
  | some (_, .inr v) => if Nat.beq t 1 then scVals pc s (.inr (.inl (v.toInt, v.toInt)) :: s.2.2.1) else none
  | none => if Nat.beq t 0 then (match X.2.2.1.2.find? (fun q => Nat.beq q.1 idx) with
    | some q => scVals pc s (.inr (.inr (.inr q.2)) :: s.2.2.1)
    | none => none) else none
def scTab (pc : Nat) (s : scS) (dflt lo hi : Int) (offs : Array Int) : scRes := match s.2.2.1 with
  | .inl a :: S => if Nat.beq offs.size (hi - lo + 1).toNat && decide (0 ≤ (pc : Int) + dflt) && (List.range (hi - lo + 1).toNat).all (fun q => decide (0 ≤ (pc : Int) + offs.getD q 0)) then some ((if decide (lo ≤ (scIv s.1 a).1) && decide ((scIv s.1 a).2 ≤ hi) then [] else [(((pc : Int) + dflt).toNat, (s.1, s.2.1, S, s.2.2.2))]) ++ (List.range (hi - lo + 1).toNat).flatMap (fun (q : Nat) => match scCut s.1 a (lo + (q : Int)) (lo + (q : Int)) with
      | some e => [(((pc : Int) + offs.getD q 0).toNat, (e, s.2.1, S, s.2.2.2))]
      | none => [])) else none
  | _ => none
def scLook (pc : Nat) (s : scS) (dflt : Int) (ps : Array (Int × Int)) : scRes := match s.2.2.1 with
  | .inl _ :: S => if (ps.toList.zip (ps.toList.drop 1)).all (fun (a, next) => a.1 < next.1) && (dflt :: ps.toList.map (fun q => q.2)).all (fun o => decide (0 ≤ (pc : Int) + o)) then some ((dflt :: ps.toList.map (fun q => q.2)).map (fun o => (((pc : Int) + o).toNat, ((s.1, s.2.1, S, s.2.2.2) : scS)))) else none
  | _ => none
def scThr (X : scX) (ent : Bool) (pc : Nat) (s : scS) (idx : Nat) : scRes := match s.2.2.1 with
  | [] => if Nat.beq (pvK X.2.2.2.2.1.1.cls) 10 && decide (decode X.2.2.2.2.1.2.1 (pc + 3) = .ok (.dup, 1)) && decide (decode X.2.2.2.2.1.2.1 (pc + 10) = .ok (.athrow, 1)) then (if Nat.beq idx 376 && decide (decode X.2.2.2.2.1.2.1 (pc + 4) = .ok (.ldc_w 378, 3)) && decide (decode X.2.2.2.2.1.2.1 (pc + 7) = .ok (.invokespecial 380, 3)) && scOut X ent s.1 s.2.2.2 4 (0, 0) then some [] else if Nat.beq idx 369 && decide (decode X.2.2.2.2.1.2.1 (pc + 4) = .ok (.ldc_w 371, 3)) && decide (decode X.2.2.2.2.1.2.1 (pc + 7) = .ok (.invokespecial 373, 3)) && scOut X ent s.1 s.2.2.2 5 (0, 0) then some [] else none) else none
  | _ => none
def scStp (X : scX) (ent : Bool) (pc : Nat) (i : Instr) (s : scS) : scRes := match i with
  | .iconst n => if decide (-1 ≤ n) && decide (n ≤ 5) then scVals (pc + 1) s (.inl (none, n) :: s.2.2.1) else none
  | .bipush n => if decide (-128 ≤ n) && decide (n ≤ 127) then scVals (pc + 2) s (.inl (none, n) :: s.2.2.1) else none
  | .sipush n => if decide (-32768 ≤ n) && decide (n ≤ 32767) then scVals (pc + 3) s (.inl (none, n) :: s.2.2.1) else none
  | .lconst n => scVals (pc + 1) s (.inr (.inl ((n.val : Int), (n.val : Int))) :: s.2.2.1)
  | .iload_n n => scLoad (pc + 1) s n.val 0
  | .iload n => scLoad (pc + 2) s n 0
  | .lload_n n => scLoad (pc + 1) s n.val 1
  | .lload n => scLoad (pc + 2) s n 1
  | .aload_n n => scLoad (pc + 1) s n.val 2
  | .aload n => scLoad (pc + 2) s n 2
  | .istore_n n => scStor X.2.2.2.2.1.2.2.1 (pc + 1) s n.val 0
  | .istore n => scStor X.2.2.2.2.1.2.2.1 (pc + 2) s n 0
  | .lstore_n n => scStor X.2.2.2.2.1.2.2.1 (pc + 1) s n.val 1
  | .lstore n => scStor X.2.2.2.2.1.2.2.1 (pc + 2) s n 1
  | .astore_n n => scStor X.2.2.2.2.1.2.2.1 (pc + 1) s n.val 2
  | .astore n => scStor X.2.2.2.2.1.2.2.1 (pc + 2) s n 2
  | .iinc n v => match s.2.1.getD n none with
    | some (.inl a) => if scNo2 s.2.1 n && Nat.blt n X.2.2.2.2.1.2.2.1 && decide (-128 ≤ v) && decide (v ≤ 127) then scOne (pc + 3) ((scAdd s.1 a (none, v)).2, s.2.1.set n (some (.inl (scAdd s.1 a (none, v)).1)), s.2.2.1, s.2.2.2) else none
    | _ => none
  | .iadd => scBin (pc + 1) s scAdd
  | .isub => scBin (pc + 1) s scSubt
  | .imul => scBin (pc + 1) s scMul
  | .idiv => match s.2.2.1 with
    | .inl b :: .inl a :: S => if decide (0 < (scIv s.1 b).1) then scPush (pc + 1) s S (scDiv s.1 a) else if decide ((scIv s.1 b).2 < 0) then scPush (pc + 1) s S (scNew s.1 scTop) else none
    | _ => none
  | .irem => match s.2.2.1 with
    | .inl b :: .inl _ :: S => if decide (0 < (scIv s.1 b).1) then scPush (pc + 1) s S (scNew s.1 scTop) else none
    | _ => none
  | .iand => scBin (pc + 1) s scAnd
  | .ior => scBinT (pc + 1) s
  | .ixor => scBinT (pc + 1) s
  | .ishl => scBinT (pc + 1) s
  | .ishr => scBinT (pc + 1) s
  | .iushr => scBinT (pc + 1) s
  | .ineg => match s.2.2.1 with
    | .inl a :: S => scPush (pc + 1) s S (scSubt s.1 (none, 0) a)
    | _ => none
  | .i2b => match s.2.2.1 with
    | .inl _ :: S => scPush (pc + 1) s S (scNew s.1 scTop)
    | _ => none
  | .i2l => match s.2.2.1 with
    | .inl a :: S => scVals (pc + 1) s (.inr (.inl (scIv s.1 a)) :: S)
    | _ => none
  | .l2i => match s.2.2.1 with
    | .inr (.inl _) :: S => scPush (pc + 1) s S (scNew s.1 scTop)
    | _ => none
  | .ladd => scLong2 (pc + 1) s
  | .lsub => scLong2 (pc + 1) s
  | .lmul => match s.2.2.1 with
    | .inr (.inl f) :: .inr (.inl e) :: S => scVals (pc + 1) s (.inr (.inl (scLmul e f)) :: S)
    | _ => none
  | .land => scLong2 (pc + 1) s
  | .lor => scLong2 (pc + 1) s
  | .lxor => scLong2 (pc + 1) s
  | .ldiv => match s.2.2.1 with
    | .inr (.inl f) :: .inr (.inl _) :: S => if decide (0 < f.1) then scVals (pc + 1) s (.inr (.inl scTopL) :: S) else none
    | _ => none
  | .lshl => match s.2.2.1 with
    | .inl _ :: .inr (.inl _) :: S => scVals (pc + 1) s (.inr (.inl scTopL) :: S)
    | _ => none
  | .lshr => match s.2.2.1 with
    | .inl _ :: .inr (.inl _) :: S => scVals (pc + 1) s (.inr (.inl scTopL) :: S)
    | _ => none
  | .lcmp => match s.2.2.1 with
    | .inr (.inl _) :: .inr (.inl _) :: S => scPush (pc + 1) s S (scNew s.1 scTop)
    | _ => none
  | .dup => match s.2.2.1 with
    | .inl a :: S => scVals (pc + 1) s (.inl a :: .inl a :: S)
    | .inr (.inr r) :: S => scVals (pc + 1) s (.inr (.inr r) :: .inr (.inr r) :: S)
    | _ => none
  | .dup2 => match s.2.2.1 with
    | .inl a :: .inr (.inr r) :: S => scVals (pc + 1) s (.inl a :: .inr (.inr r) :: .inl a :: .inr (.inr r) :: S)
    | _ => none
  | .pop => match s.2.2.1 with
    | .inl _ :: S => scVals (pc + 1) s S
    | .inr (.inr _) :: S => scVals (pc + 1) s S
    | _ => none
  | .goto off => if decide (0 ≤ (pc : Int) + off) then scOne ((pc : Int) + off).toNat s else none
  | .ifCond c off => match s.2.2.1 with
    | .inl a :: S => scCond pc c off s S a (none, 0)
    | _ => none
  | .if_icmp c off => match s.2.2.1 with
    | .inl b :: .inl a :: S => scCond pc c off s S a b
    | _ => none
  | .getfield idx => scGet X (pc + 3) s idx
  | .putfield idx => scPut X (pc + 3) s idx
  | .iaload => scAld X (pc + 1) s 0
  | .laload => scAld X (pc + 1) s 1
  | .baload => scAld X (pc + 1) s 2
  | .iastore => scAst X (pc + 1) s 0
  | .lastore => scAst X (pc + 1) s 1
  | .bastore => scAst X (pc + 1) s 2
  | .aaload => scAald X (pc + 1) s
  | .arraylength => scAlen X (pc + 1) s
  | .ldc idx => scLdc X (pc + 2) s idx 0
  | .ldc_w idx => match X.2.2.1.1.2.1.find? (fun q => Nat.beq q.1 idx) with
    | some (_, .inl v) => scVals (pc + 3) s (.inl (none, v.toInt) :: s.2.2.1)
    | _ => none
  | .ldc2_w idx => scLdc X (pc + 3) s idx 1
  | .tableswitch dflt lo hi offs => scTab pc s dflt lo hi offs
  | .lookupswitch dflt ps => scLook pc s dflt ps
  | .new idx => scThr X ent pc s idx
  | .invokevirtual idx => match scCall X ent (pc + 3) s idx 0 X.2.2.2.1 with
    | some r => some r
    | none => scStr X (pc + 3) s idx
  | .invokestatic idx => scStat X ent (pc + 3) s idx
  | .ireturn => match s.2.2.1 with
    | [.inl a] => match X.2.2.2.2.1.2.2.2 with
      | some .int => if scOut X ent s.1 s.2.2.2 1 (scIv s.1 a) then some [] else none
      | some .boolean => if scOut X ent s.1 s.2.2.2 1 (scIv s.1 a) && scSub (scIv s.1 a) (0, 1) then some [] else none
      | _ => none
    | _ => none
  | .lreturn => match s.2.2.1 with
    | [.inr (.inl e)] => match X.2.2.2.2.1.2.2.2 with
      | some .long => if scOut X ent s.1 s.2.2.2 2 e then some [] else none
      | _ => none
    | _ => none
  | .return_ => match s.2.2.1 with
    | [] => match X.2.2.2.2.1.2.2.2 with
      | none => if scOut X ent s.1 s.2.2.2 0 (0, 0) then some [] else none
      | _ => none
    | _ => none
  | _ => none
end
