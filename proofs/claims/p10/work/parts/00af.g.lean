-- P 10f
section
-- THE PURE MACHINE: its rows
section PvRows
variable {T : fmT} {d d' : Nat} {y y' : fmY} {pc idx n : Nat} {L : List (Option Value)} {st As : List Value} {M : fmM} {Q : fmR → fmM → Prop}
theorem pv_gd {i : Nat} {v : Value} (h : L[i]? = some (some v)) : L.getD i none = some v := by simp [List.getD, h]
theorem pvStor_I {m i : Nat} {x : Int32} (hn : i < m) (h2 : fmNo2 L i = true) : pvStor m pc i 0 L (.int x :: st) M = pvN pc (L.set i (some (.int x))) st M := by
  have h : (Nat.beq 0 0 && Nat.blt i m) = true := by simp [hn]
  simp only [pvStor, pvKill_eq h2]
  rw [if_pos h]
theorem pvStor_J {m i : Nat} {x : Int64} (hn : i + 1 < m) (h2 : fmNo2 L i = true) : pvStor m pc i 1 L (.long x :: st) M = pvN pc ((L.set i (some (.long x))).set (i + 1) none) st M := by
  have h : (Nat.beq 1 1 && Nat.blt (i + 1) m) = true := by simp [hn]
  simp only [pvStor, pvKill_eq h2]
  rw [if_pos h]
theorem pvStor_R {m i x : Nat} (hn : i < m) (h2 : fmNo2 L i = true) : pvStor m pc i 2 L (.ref x :: st) M = pvN pc (L.set i (some (.ref x))) st M := by
  have h : (Nat.beq 2 2 && Nat.blt i m) = true := by simp [hn]
  simp only [pvStor, pvKill_eq h2]
  rw [if_pos h]
theorem pv_iconst {n : Int} {v : Int32} (hv : Int32.ofInt n = v) (hdg : decode y.2.1 pc = .ok (.iconst n, 1)) (k : pvEv T d y (pc + 1) L (.int v :: st) M Q) : pvEv T d y pc L (st) M Q := by subst hv; exact pvEv.step hdg rfl rfl k
theorem pv_bipush {n : Int} {v : Int32} (hv : (Int8.ofInt n).toInt32 = v) (hdg : decode y.2.1 pc = .ok (.bipush n, 2)) (k : pvEv T d y (pc + 2) L (.int v :: st) M Q) : pvEv T d y pc L (st) M Q := by subst hv; exact pvEv.step hdg rfl rfl k
theorem pv_sipush {n : Int} {v : Int32} (hv : (Int16.ofInt n).toInt32 = v) (hdg : decode y.2.1 pc = .ok (.sipush n, 3)) (k : pvEv T d y (pc + 3) L (.int v :: st) M Q) : pvEv T d y pc L (st) M Q := by subst hv; exact pvEv.step hdg rfl rfl k
theorem pv_lconst {n : Fin 2} {v : Int64} (hv : Int64.ofNat (n : Nat) = v) (hdg : decode y.2.1 pc = .ok (.lconst n, 1)) (k : pvEv T d y (pc + 1) L (.long v :: st) M Q) : pvEv T d y pc L (st) M Q := by subst hv; exact pvEv.step hdg rfl rfl k
theorem pv_iload_n {n : Fin 4} {x : Int32} (hv : L[(n : Nat)]? = some (some (.int x))) (hdg : decode y.2.1 pc = .ok (.iload_n n, 1)) (k : pvEv T d y (pc + 1) L (.int x :: st) M Q) : pvEv T d y pc L (st) M Q := pvEv.step hdg rfl (by simp only [pvStp, pvLoad, pv_gd hv]; rfl) k
theorem pv_iload {i : Nat} {x : Int32} (hv : L[i]? = some (some (.int x))) (hdg : decode y.2.1 pc = .ok (.iload i, 2)) (k : pvEv T d y (pc + 2) L (.int x :: st) M Q) : pvEv T d y pc L (st) M Q := pvEv.step hdg rfl (by simp only [pvStp, pvLoad, pv_gd hv]; rfl) k
theorem pv_lload_n {n : Fin 4} {x : Int64} (hv : L[(n : Nat)]? = some (some (.long x))) (hdg : decode y.2.1 pc = .ok (.lload_n n, 1)) (k : pvEv T d y (pc + 1) L (.long x :: st) M Q) : pvEv T d y pc L (st) M Q := pvEv.step hdg rfl (by simp only [pvStp, pvLoad, pv_gd hv]; rfl) k
theorem pv_lload {i : Nat} {x : Int64} (hv : L[i]? = some (some (.long x))) (hdg : decode y.2.1 pc = .ok (.lload i, 2)) (k : pvEv T d y (pc + 2) L (.long x :: st) M Q) : pvEv T d y pc L (st) M Q := pvEv.step hdg rfl (by simp only [pvStp, pvLoad, pv_gd hv]; rfl) k
theorem pv_aload_n {n : Fin 4} {x : Nat} (hv : L[(n : Nat)]? = some (some (.ref x))) (hdg : decode y.2.1 pc = .ok (.aload_n n, 1)) (k : pvEv T d y (pc + 1) L (.ref x :: st) M Q) : pvEv T d y pc L (st) M Q := pvEv.step hdg rfl (by simp only [pvStp, pvLoad, pv_gd hv]; rfl) k
theorem pv_aload {i : Nat} {x : Nat} (hv : L[i]? = some (some (.ref x))) (hdg : decode y.2.1 pc = .ok (.aload i, 2)) (k : pvEv T d y (pc + 2) L (.ref x :: st) M Q) : pvEv T d y pc L (st) M Q := pvEv.step hdg rfl (by simp only [pvStp, pvLoad, pv_gd hv]; rfl) k
theorem pv_istore_n {n : Fin 4} {x : Int32} (hn : (n : Nat) < y.2.2.1) (h2 : fmNo2 L (n : Nat) = true) (hdg : decode y.2.1 pc = .ok (.istore_n n, 1)) (k : pvEv T d y (pc + 1) (L.set (n : Nat) (some (.int x))) st M Q) : pvEv T d y pc L (.int x :: st) M Q := pvEv.step hdg rfl (pvStor_I hn h2) k
theorem pv_istore {i : Nat} {x : Int32} (hn : i < y.2.2.1) (h2 : fmNo2 L i = true) (hdg : decode y.2.1 pc = .ok (.istore i, 2)) (k : pvEv T d y (pc + 2) (L.set i (some (.int x))) st M Q) : pvEv T d y pc L (.int x :: st) M Q := pvEv.step hdg rfl (pvStor_I hn h2) k
theorem pv_lstore_n {n : Fin 4} {x : Int64} (hn : (n : Nat) + 1 < y.2.2.1) (h2 : fmNo2 L (n : Nat) = true) (hdg : decode y.2.1 pc = .ok (.lstore_n n, 1)) (k : pvEv T d y (pc + 1) ((L.set (n : Nat) (some (.long x))).set ((n : Nat) + 1) none) st M Q) : pvEv T d y pc L (.long x :: st) M Q := pvEv.step hdg rfl (pvStor_J hn h2) k
theorem pv_lstore {i : Nat} {x : Int64} (hn : i + 1 < y.2.2.1) (h2 : fmNo2 L i = true) (hdg : decode y.2.1 pc = .ok (.lstore i, 2)) (k : pvEv T d y (pc + 2) ((L.set i (some (.long x))).set (i + 1) none) st M Q) : pvEv T d y pc L (.long x :: st) M Q := pvEv.step hdg rfl (pvStor_J hn h2) k
theorem pv_astore_n {n : Fin 4} {x : Nat} (hn : (n : Nat) < y.2.2.1) (h2 : fmNo2 L (n : Nat) = true) (hdg : decode y.2.1 pc = .ok (.astore_n n, 1)) (k : pvEv T d y (pc + 1) (L.set (n : Nat) (some (.ref x))) st M Q) : pvEv T d y pc L (.ref x :: st) M Q := pvEv.step hdg rfl (pvStor_R hn h2) k
theorem pv_astore {i : Nat} {x : Nat} (hn : i < y.2.2.1) (h2 : fmNo2 L i = true) (hdg : decode y.2.1 pc = .ok (.astore i, 2)) (k : pvEv T d y (pc + 2) (L.set i (some (.ref x))) st M Q) : pvEv T d y pc L (.ref x :: st) M Q := pvEv.step hdg rfl (pvStor_R hn h2) k
theorem pv_iinc {i : Nat} {n : Int} {x v : Int32} (hl : L[i]? = some (some (.int x))) (hv : x + Int32.ofInt n = v) (hn : i < y.2.2.1) (h2 : fmNo2 L i = true) (hdg : decode y.2.1 pc = .ok (.iinc i n, 3)) (k : pvEv T d y (pc + 3) (L.set i (some (.int v))) st M Q) : pvEv T d y pc L st M Q := by
  have h : Nat.blt i y.2.2.1 = true := by simp [hn]
  subst hv
  exact pvEv.step hdg rfl (by simp only [pvStp, pv_gd hl, pvKill_eq h2]; rw [if_pos h]; rfl) k
theorem pv_iadd {x z : Int32} (hdg : decode y.2.1 pc = .ok (.iadd, 1)) (k : pvEv T d y (pc + 1) L (.int (x + z) :: st) M Q) : pvEv T d y pc L (.int z :: .int x :: st) M Q := pvEv.step hdg rfl rfl k
theorem pv_isub {x z : Int32} (hdg : decode y.2.1 pc = .ok (.isub, 1)) (k : pvEv T d y (pc + 1) L (.int (x - z) :: st) M Q) : pvEv T d y pc L (.int z :: .int x :: st) M Q := pvEv.step hdg rfl rfl k
theorem pv_imul {x z : Int32} (hdg : decode y.2.1 pc = .ok (.imul, 1)) (k : pvEv T d y (pc + 1) L (.int (x * z) :: st) M Q) : pvEv T d y pc L (.int z :: .int x :: st) M Q := pvEv.step hdg rfl rfl k
theorem pv_iand {x z : Int32} (hdg : decode y.2.1 pc = .ok (.iand, 1)) (k : pvEv T d y (pc + 1) L (.int (x &&& z) :: st) M Q) : pvEv T d y pc L (.int z :: .int x :: st) M Q := pvEv.step hdg rfl rfl k
theorem pv_ior {x z : Int32} (hdg : decode y.2.1 pc = .ok (.ior, 1)) (k : pvEv T d y (pc + 1) L (.int (x ||| z) :: st) M Q) : pvEv T d y pc L (.int z :: .int x :: st) M Q := pvEv.step hdg rfl rfl k
theorem pv_ixor {x z : Int32} (hdg : decode y.2.1 pc = .ok (.ixor, 1)) (k : pvEv T d y (pc + 1) L (.int (x ^^^ z) :: st) M Q) : pvEv T d y pc L (.int z :: .int x :: st) M Q := pvEv.step hdg rfl rfl k
theorem pv_ishl {x z : Int32} (hdg : decode y.2.1 pc = .ok (.ishl, 1)) (k : pvEv T d y (pc + 1) L (.int (x <<< (z &&& 31)) :: st) M Q) : pvEv T d y pc L (.int z :: .int x :: st) M Q := pvEv.step hdg rfl rfl k
theorem pv_ishr {x z : Int32} (hdg : decode y.2.1 pc = .ok (.ishr, 1)) (k : pvEv T d y (pc + 1) L (.int (x >>> (z &&& 31)) :: st) M Q) : pvEv T d y pc L (.int z :: .int x :: st) M Q := pvEv.step hdg rfl rfl k
theorem pv_iushr {x z : Int32} (hdg : decode y.2.1 pc = .ok (.iushr, 1)) (k : pvEv T d y (pc + 1) L (.int ((x.toUInt32 >>> (z.toUInt32 &&& Int32.toUInt32 31)).toInt32) :: st) M Q) : pvEv T d y pc L (.int z :: .int x :: st) M Q := pvEv.step hdg rfl rfl k
theorem pv_ladd {x z : Int64} (hdg : decode y.2.1 pc = .ok (.ladd, 1)) (k : pvEv T d y (pc + 1) L (.long (x + z) :: st) M Q) : pvEv T d y pc L (.long z :: .long x :: st) M Q := pvEv.step hdg rfl rfl k
theorem pv_lsub {x z : Int64} (hdg : decode y.2.1 pc = .ok (.lsub, 1)) (k : pvEv T d y (pc + 1) L (.long (x - z) :: st) M Q) : pvEv T d y pc L (.long z :: .long x :: st) M Q := pvEv.step hdg rfl rfl k
theorem pv_lmul {x z : Int64} (hdg : decode y.2.1 pc = .ok (.lmul, 1)) (k : pvEv T d y (pc + 1) L (.long (x * z) :: st) M Q) : pvEv T d y pc L (.long z :: .long x :: st) M Q := pvEv.step hdg rfl rfl k
theorem pv_land {x z : Int64} (hdg : decode y.2.1 pc = .ok (.land, 1)) (k : pvEv T d y (pc + 1) L (.long (x &&& z) :: st) M Q) : pvEv T d y pc L (.long z :: .long x :: st) M Q := pvEv.step hdg rfl rfl k
theorem pv_lor {x z : Int64} (hdg : decode y.2.1 pc = .ok (.lor, 1)) (k : pvEv T d y (pc + 1) L (.long (x ||| z) :: st) M Q) : pvEv T d y pc L (.long z :: .long x :: st) M Q := pvEv.step hdg rfl rfl k
theorem pv_lxor {x z : Int64} (hdg : decode y.2.1 pc = .ok (.lxor, 1)) (k : pvEv T d y (pc + 1) L (.long (x ^^^ z) :: st) M Q) : pvEv T d y pc L (.long z :: .long x :: st) M Q := pvEv.step hdg rfl rfl k
theorem pv_lshl {x : Int64} {z : Int32} (hdg : decode y.2.1 pc = .ok (.lshl, 1)) (k : pvEv T d y (pc + 1) L (.long (x <<< (z.toInt64 &&& 63)) :: st) M Q) : pvEv T d y pc L (.int z :: .long x :: st) M Q := pvEv.step hdg rfl rfl k
theorem pv_lshr {x : Int64} {z : Int32} (hdg : decode y.2.1 pc = .ok (.lshr, 1)) (k : pvEv T d y (pc + 1) L (.long (x >>> (z.toInt64 &&& 63)) :: st) M Q) : pvEv T d y pc L (.int z :: .long x :: st) M Q := pvEv.step hdg rfl rfl k
theorem pv_ineg {x : Int32} (hdg : decode y.2.1 pc = .ok (.ineg, 1)) (k : pvEv T d y (pc + 1) L (.int (-x) :: st) M Q) : pvEv T d y pc L (.int x :: st) M Q := pvEv.step hdg rfl rfl k
theorem pv_i2l {x : Int32} (hdg : decode y.2.1 pc = .ok (.i2l, 1)) (k : pvEv T d y (pc + 1) L (.long x.toInt64 :: st) M Q) : pvEv T d y pc L (.int x :: st) M Q := pvEv.step hdg rfl rfl k
theorem pv_l2i {x : Int64} (hdg : decode y.2.1 pc = .ok (.l2i, 1)) (k : pvEv T d y (pc + 1) L (.int x.toInt32 :: st) M Q) : pvEv T d y pc L (.long x :: st) M Q := pvEv.step hdg rfl rfl k
theorem pv_i2b {x : Int32} (hdg : decode y.2.1 pc = .ok (.i2b, 1)) (k : pvEv T d y (pc + 1) L (.int x.toInt8.toInt32 :: st) M Q) : pvEv T d y pc L (.int x :: st) M Q := pvEv.step hdg rfl rfl k
theorem pv_lcmp {x z : Int64} (hdg : decode y.2.1 pc = .ok (.lcmp, 1)) (k : pvEv T d y (pc + 1) L (.int (lg_cmp x z) :: st) M Q) : pvEv T d y pc L (.long z :: .long x :: st) M Q := pvEv.step hdg rfl rfl k
theorem pv_idiv {x z : Int32} (hne : ¬ z = 0) (hdg : decode y.2.1 pc = .ok (.idiv, 1)) (k : pvEv T d y (pc + 1) L (.int (x / z) :: st) M Q) : pvEv T d y pc L (.int z :: .int x :: st) M Q := pvEv.step hdg rfl (by simp only [pvStp, if_neg hne]; rfl) k
theorem pv_irem {x z : Int32} (hne : ¬ z = 0) (hdg : decode y.2.1 pc = .ok (.irem, 1)) (k : pvEv T d y (pc + 1) L (.int (x - x / z * z) :: st) M Q) : pvEv T d y pc L (.int z :: .int x :: st) M Q := pvEv.step hdg rfl (by simp only [pvStp, if_neg hne]; rfl) k
theorem pv_ldiv {x z : Int64} (hne : ¬ z = 0) (hdg : decode y.2.1 pc = .ok (.ldiv, 1)) (k : pvEv T d y (pc + 1) L (.long (x / z) :: st) M Q) : pvEv T d y pc L (.long z :: .long x :: st) M Q := pvEv.step hdg rfl (by simp only [pvStp, if_neg hne]; rfl) k
theorem pv_lrem {x z : Int64} (hne : ¬ z = 0) (hdg : decode y.2.1 pc = .ok (.lrem, 1)) (k : pvEv T d y (pc + 1) L (.long (x - x / z * z) :: st) M Q) : pvEv T d y pc L (.long z :: .long x :: st) M Q := pvEv.step hdg rfl (by simp only [pvStp, if_neg hne]; rfl) k
theorem pv_dup {v : Value} (hc : v.category = 1) (hdg : decode y.2.1 pc = .ok (.dup, 1)) (k : pvEv T d y (pc + 1) L (v :: v :: st) M Q) : pvEv T d y pc L (v :: st) M Q := pvEv.step hdg rfl (by simp only [pvStp, if_pos hc]; rfl) k
theorem pv_pop {v : Value} (hc : v.category = 1) (hdg : decode y.2.1 pc = .ok (.pop, 1)) (k : pvEv T d y (pc + 1) L (st) M Q) : pvEv T d y pc L (v :: st) M Q := pvEv.step hdg rfl (by simp only [pvStp, if_pos hc]; rfl) k
theorem pv_dup2 {v u : Value} (hc : v.category = 1) (hc2 : u.category = 1) (hdg : decode y.2.1 pc = .ok (.dup2, 1)) (k : pvEv T d y (pc + 1) L (v :: u :: v :: u :: st) M Q) : pvEv T d y pc L (v :: u :: st) M Q := by
  have h : v.category = 1 ∧ u.category = 1 := ⟨hc, hc2⟩
  cases v with
  | long x => cases hc
  | _ => exact pvEv.step hdg rfl (by simp only [pvStp]; rw [if_pos h]; rfl) k
theorem pv_dup2L {x : Int64} (hdg : decode y.2.1 pc = .ok (.dup2, 1)) (k : pvEv T d y (pc + 1) L (.long x :: .long x :: st) M Q) : pvEv T d y pc L (.long x :: st) M Q := pvEv.step hdg rfl rfl k
theorem pv_dup_x1 {v u : Value} (hc : v.category = 1) (hc2 : u.category = 1) (hdg : decode y.2.1 pc = .ok (.dup_x1, 1)) (k : pvEv T d y (pc + 1) L (v :: u :: v :: st) M Q) : pvEv T d y pc L (v :: u :: st) M Q := by
  have h : v.category = 1 ∧ u.category = 1 := ⟨hc, hc2⟩
  exact pvEv.step hdg rfl (by simp only [pvStp]; rw [if_pos h]; rfl) k
theorem pv_icmp (c : scCo) {x z : Int32} {off : Int} {tgt : Nat} (ht : (pc : Int) + off = (tgt : Int)) (hdg : decode y.2.1 pc = .ok (.if_icmp c off, 3)) (kt : scRel c x.toInt z.toInt → pvEv T d y tgt L st M Q) (kf : scRel (scNeg c) x.toInt z.toInt → pvEv T d y (pc + 3) L st M Q) : pvEv T d y pc L (.int z :: .int x :: st) M Q := by
  have h : decide (0 ≤ (pc : Int) + off) = true := by simp only [decide_eq_true_eq]; omega
  have et : ((pc : Int) + off).toNat = tgt := by omega
  cases hb : pvRel c x.toInt z.toInt with
  | true => exact pvEv.step hdg rfl (by simp only [pvStp, pvBr]; rw [if_pos h, if_pos hb, et]; rfl) (kt (pvRel_t hb))
  | false => exact pvEv.step hdg rfl (by simp only [pvStp, pvBr]; rw [if_pos h, if_neg (by rw [hb]; exact Bool.false_ne_true)]; rfl) (kf (pvRel_f hb))
theorem pv_ifc (c : scCo) {x : Int32} {off : Int} {tgt : Nat} (ht : (pc : Int) + off = (tgt : Int)) (hdg : decode y.2.1 pc = .ok (.ifCond c off, 3)) (kt : scRel c x.toInt 0 → pvEv T d y tgt L st M Q) (kf : scRel (scNeg c) x.toInt 0 → pvEv T d y (pc + 3) L st M Q) : pvEv T d y pc L (.int x :: st) M Q := by
  have h : decide (0 ≤ (pc : Int) + off) = true := by simp only [decide_eq_true_eq]; omega
  have et : ((pc : Int) + off).toNat = tgt := by omega
  cases hb : pvRel c x.toInt 0 with
  | true => exact pvEv.step hdg rfl (by simp only [pvStp, pvBr]; rw [if_pos h, if_pos hb, et]; rfl) (kt (pvRel_t hb))
  | false => exact pvEv.step hdg rfl (by simp only [pvStp, pvBr]; rw [if_pos h, if_neg (by rw [hb]; exact Bool.false_ne_true)]; rfl) (kf (pvRel_f hb))
theorem pv_z0 : (0 : Int32).toInt = 0 := by decide
theorem pv_icmp_eq {x z : Int32} {off : Int} (tgt : Nat) (ht : (pc : Int) + off = (tgt : Int)) (hdg : decode y.2.1 pc = .ok (.if_icmp .eq off, 3)) (kt : x = z → pvEv T d y tgt L st M Q) (kf : ¬ (x = z) → pvEv T d y (pc + 3) L st M Q) : pvEv T d y pc L (.int z :: .int x :: st) M Q := pv_icmp .eq ht hdg (fun h => kt (scq_eq.mpr h)) (fun h => kf (fun e => h (scq_eq.mp e)))
theorem pv_icmp_ne {x z : Int32} {off : Int} (tgt : Nat) (ht : (pc : Int) + off = (tgt : Int)) (hdg : decode y.2.1 pc = .ok (.if_icmp .ne off, 3)) (kt : ¬ x = z → pvEv T d y tgt L st M Q) (kf : x = z → pvEv T d y (pc + 3) L st M Q) : pvEv T d y pc L (.int z :: .int x :: st) M Q := pv_icmp .ne ht hdg (fun h => kt (fun e => h (scq_eq.mp e))) (fun h => kf (scq_eq.mpr h))
theorem pv_icmp_lt {x z : Int32} {off : Int} (tgt : Nat) (ht : (pc : Int) + off = (tgt : Int)) (hdg : decode y.2.1 pc = .ok (.if_icmp .lt off, 3)) (kt : x < z → pvEv T d y tgt L st M Q) (kf : ¬ (x < z) → pvEv T d y (pc + 3) L st M Q) : pvEv T d y pc L (.int z :: .int x :: st) M Q := pv_icmp .lt ht hdg (fun h => kt (sc_lt.mpr h)) (fun h => kf (fun e => by have h : z.toInt ≤ x.toInt := h; rw [sc_lt] at e; omega))
theorem pv_icmp_ge {x z : Int32} {off : Int} (tgt : Nat) (ht : (pc : Int) + off = (tgt : Int)) (hdg : decode y.2.1 pc = .ok (.if_icmp .ge off, 3)) (kt : z ≤ x → pvEv T d y tgt L st M Q) (kf : ¬ (z ≤ x) → pvEv T d y (pc + 3) L st M Q) : pvEv T d y pc L (.int z :: .int x :: st) M Q := pv_icmp .ge ht hdg (fun h => kt (sc_le.mpr h)) (fun h => kf (fun e => by have h : x.toInt < z.toInt := h; rw [sc_le] at e; omega))
theorem pv_icmp_gt {x z : Int32} {off : Int} (tgt : Nat) (ht : (pc : Int) + off = (tgt : Int)) (hdg : decode y.2.1 pc = .ok (.if_icmp .gt off, 3)) (kt : z < x → pvEv T d y tgt L st M Q) (kf : ¬ (z < x) → pvEv T d y (pc + 3) L st M Q) : pvEv T d y pc L (.int z :: .int x :: st) M Q := pv_icmp .gt ht hdg (fun h => kt (sc_lt.mpr h)) (fun h => kf (fun e => by have h : x.toInt ≤ z.toInt := h; rw [sc_lt] at e; omega))
theorem pv_icmp_le {x z : Int32} {off : Int} (tgt : Nat) (ht : (pc : Int) + off = (tgt : Int)) (hdg : decode y.2.1 pc = .ok (.if_icmp .le off, 3)) (kt : x ≤ z → pvEv T d y tgt L st M Q) (kf : ¬ (x ≤ z) → pvEv T d y (pc + 3) L st M Q) : pvEv T d y pc L (.int z :: .int x :: st) M Q := pv_icmp .le ht hdg (fun h => kt (sc_le.mpr h)) (fun h => kf (fun e => by have h : z.toInt < x.toInt := h; rw [sc_le] at e; omega))
theorem pv_if_eq {x : Int32} {off : Int} (tgt : Nat) (ht : (pc : Int) + off = (tgt : Int)) (hdg : decode y.2.1 pc = .ok (.ifCond .eq off, 3)) (kt : x = 0 → pvEv T d y tgt L st M Q) (kf : ¬ (x = 0) → pvEv T d y (pc + 3) L st M Q) : pvEv T d y pc L (.int x :: st) M Q := pv_ifc .eq ht hdg (fun h => kt (scq_eq.mpr (h.trans pv_z0.symm))) (fun h => kf (fun e => h ((scq_eq.mp e).trans pv_z0)))
theorem pv_if_ne {x : Int32} {off : Int} (tgt : Nat) (ht : (pc : Int) + off = (tgt : Int)) (hdg : decode y.2.1 pc = .ok (.ifCond .ne off, 3)) (kt : ¬ x = 0 → pvEv T d y tgt L st M Q) (kf : x = 0 → pvEv T d y (pc + 3) L st M Q) : pvEv T d y pc L (.int x :: st) M Q := pv_ifc .ne ht hdg (fun h => kt (fun e => h ((scq_eq.mp e).trans pv_z0))) (fun h => kf (scq_eq.mpr (h.trans pv_z0.symm)))
theorem pv_if_lt {x : Int32} {off : Int} (tgt : Nat) (ht : (pc : Int) + off = (tgt : Int)) (hdg : decode y.2.1 pc = .ok (.ifCond .lt off, 3)) (kt : x < 0 → pvEv T d y tgt L st M Q) (kf : ¬ (x < 0) → pvEv T d y (pc + 3) L st M Q) : pvEv T d y pc L (.int x :: st) M Q := pv_ifc .lt ht hdg (fun h => kt (by have h : x.toInt < 0 := h; rw [sc_lt, pv_z0]; exact h)) (fun h => kf (fun e => by have h : 0 ≤ x.toInt := h; rw [sc_lt, pv_z0] at e; omega))
theorem pv_if_ge {x : Int32} {off : Int} (tgt : Nat) (ht : (pc : Int) + off = (tgt : Int)) (hdg : decode y.2.1 pc = .ok (.ifCond .ge off, 3)) (kt : 0 ≤ x → pvEv T d y tgt L st M Q) (kf : ¬ (0 ≤ x) → pvEv T d y (pc + 3) L st M Q) : pvEv T d y pc L (.int x :: st) M Q := pv_ifc .ge ht hdg (fun h => kt (by have h : 0 ≤ x.toInt := h; rw [sc_le, pv_z0]; exact h)) (fun h => kf (fun e => by have h : x.toInt < 0 := h; rw [sc_le, pv_z0] at e; omega))
theorem pv_if_gt {x : Int32} {off : Int} (tgt : Nat) (ht : (pc : Int) + off = (tgt : Int)) (hdg : decode y.2.1 pc = .ok (.ifCond .gt off, 3)) (kt : 0 < x → pvEv T d y tgt L st M Q) (kf : ¬ (0 < x) → pvEv T d y (pc + 3) L st M Q) : pvEv T d y pc L (.int x :: st) M Q := pv_ifc .gt ht hdg (fun h => kt (by have h : 0 < x.toInt := h; rw [sc_lt, pv_z0]; exact h)) (fun h => kf (fun e => by have h : x.toInt ≤ 0 := h; rw [sc_lt, pv_z0] at e; omega))
theorem pv_if_le {x : Int32} {off : Int} (tgt : Nat) (ht : (pc : Int) + off = (tgt : Int)) (hdg : decode y.2.1 pc = .ok (.ifCond .le off, 3)) (kt : x ≤ 0 → pvEv T d y tgt L st M Q) (kf : ¬ (x ≤ 0) → pvEv T d y (pc + 3) L st M Q) : pvEv T d y pc L (.int x :: st) M Q := pv_ifc .le ht hdg (fun h => kt (by have h : x.toInt ≤ 0 := h; rw [sc_le, pv_z0]; exact h)) (fun h => kf (fun e => by have h : 0 < x.toInt := h; rw [sc_le, pv_z0] at e; omega))
theorem pv_goto {off : Int} (tgt : Nat) (ht : (pc : Int) + off = (tgt : Int)) (hdg : decode y.2.1 pc = .ok (.goto off, 3)) (k : pvEv T d y tgt L st M Q) : pvEv T d y pc L st M Q := by
  have h : decide (0 ≤ (pc : Int) + off) = true := by simp only [decide_eq_true_eq]; omega
  have et : ((pc : Int) + off).toNat = tgt := by omega
  exact pvEv.step hdg rfl (by simp only [pvStp]; rw [if_pos h, et]; rfl) k
theorem pvOb_t {k i0 ci j t : Nat} {w : Bool} (hk : k < T.1) (hkd : T.2.1 k = ci + 6) (hj : j < T.2.2.1 k) : pvOb T k (i0, ci, j, t, w) = true := by simp [pvOb, hk, hkd, hj]
theorem pv_getI {k i0 ci j : Nat} {w : Bool} (hf : pvFd y.1.cls idx = some (i0, ci, j, 0, w)) (hk : k < T.1) (hkd : T.2.1 k = ci + 6) (hj : j < T.2.2.1 k) (hdg : decode y.2.1 pc = .ok (.getfield idx, 3)) (kk : pvEv T d y (pc + 3) L (.int (M.1 k j) :: st) M Q) : pvEv T d y pc L (.ref k :: st) M Q := pvEv.step hdg rfl (by simp only [pvStp, pvGet, hf]; rw [if_pos (pvOb_t hk hkd hj)]; rfl) kk
theorem pv_getJ {k i0 ci j : Nat} {w : Bool} (hf : pvFd y.1.cls idx = some (i0, ci, j, 1, w)) (hk : k < T.1) (hkd : T.2.1 k = ci + 6) (hj : j < T.2.2.1 k) (hdg : decode y.2.1 pc = .ok (.getfield idx, 3)) (kk : pvEv T d y (pc + 3) L (.long (M.2 k j) :: st) M Q) : pvEv T d y pc L (.ref k :: st) M Q := pvEv.step hdg rfl (by simp only [pvStp, pvGet, hf]; rw [if_pos (pvOb_t hk hkd hj)]; rfl) kk
theorem pv_getR {k i0 ci j : Nat} {w : Bool} (r : Nat) (hr : T.2.2.2 k j = r) (h1 : r < 1000) (hf : pvFd y.1.cls idx = some (i0, ci, j, 2, w)) (hk : k < T.1) (hkd : T.2.1 k = ci + 6) (hj : j < T.2.2.1 k) (hdg : decode y.2.1 pc = .ok (.getfield idx, 3)) (kk : pvEv T d y (pc + 3) L (.ref r :: st) M Q) : pvEv T d y pc L (.ref k :: st) M Q := by
  subst hr
  have hb : Nat.blt (T.2.2.2 k j) 1000 = true := by simp [h1]
  exact pvEv.step hdg rfl (by simp only [pvStp, pvGet, hf]; rw [if_pos (pvOb_t hk hkd hj), if_pos hb]; rfl) kk
theorem pv_putI {k i0 ci j : Nat} {x : Int32} (hf : pvFd y.1.cls idx = some (i0, ci, j, 0, true)) (hk : k < T.1) (hkd : T.2.1 k = ci + 6) (hj : j < T.2.2.1 k) (hdg : decode y.2.1 pc = .ok (.putfield idx, 3)) (kk : pvEv T d y (pc + 3) L st (fmI M k j x) Q) : pvEv T d y pc L (.int x :: .ref k :: st) M Q := pvEv.step hdg rfl (by simp only [pvStp, pvPut, hf]; rw [if_pos (by rw [pvOb_t hk hkd hj]; rfl)]; rfl) kk
theorem pv_putJ {k i0 ci j : Nat} {x : Int64} (hf : pvFd y.1.cls idx = some (i0, ci, j, 1, true)) (hk : k < T.1) (hkd : T.2.1 k = ci + 6) (hj : j < T.2.2.1 k) (hdg : decode y.2.1 pc = .ok (.putfield idx, 3)) (kk : pvEv T d y (pc + 3) L st (fmJ M k j x) Q) : pvEv T d y pc L (.long x :: .ref k :: st) M Q := pvEv.step hdg rfl (by simp only [pvStp, pvPut, hf]; rw [if_pos (by rw [pvOb_t hk hkd hj]; rfl)]; rfl) kk
theorem pvIx_t {k kd n : Nat} {i : Int32} (hk : k < T.1) (hkd : T.2.1 k = kd) (hln : T.2.2.1 k = n) (hin : vp_in i n) : pvIx T k kd i = true := by
  subst hln
  have h := vp_in_iff.mp hin
  simp only [pvIx, Bool.and_eq_true, Nat.blt_eq, Nat.beq_eq, decide_eq_true_eq]
  exact ⟨⟨⟨hk, hkd⟩, h.1⟩, h.2⟩
theorem pv_iald {k n : Nat} {i : Int32} (hk : k < T.1) (hkd : T.2.1 k = 0) (hln : T.2.2.1 k = n) (hin : vp_in i n) (hdg : decode y.2.1 pc = .ok (.iaload, 1)) (kk : pvEv T d y (pc + 1) L (.int (M.1 k i.toNatClampNeg) :: st) M Q) : pvEv T d y pc L (.int i :: .ref k :: st) M Q := pvEv.step hdg rfl (by simp only [pvStp, pvAld]; rw [if_pos (pvIx_t hk hkd hln hin)]; rfl) kk
theorem pv_bald {k n : Nat} {i : Int32} (hk : k < T.1) (hkd : T.2.1 k = 2) (hln : T.2.2.1 k = n) (hin : vp_in i n) (hdg : decode y.2.1 pc = .ok (.baload, 1)) (kk : pvEv T d y (pc + 1) L (.int (M.1 k i.toNatClampNeg) :: st) M Q) : pvEv T d y pc L (.int i :: .ref k :: st) M Q := pvEv.step hdg rfl (by simp only [pvStp, pvAld]; rw [if_pos (pvIx_t hk hkd hln hin)]; rfl) kk
theorem pv_lald {k n : Nat} {i : Int32} (hk : k < T.1) (hkd : T.2.1 k = 1) (hln : T.2.2.1 k = n) (hin : vp_in i n) (hdg : decode y.2.1 pc = .ok (.laload, 1)) (kk : pvEv T d y (pc + 1) L (.long (M.2 k i.toNatClampNeg) :: st) M Q) : pvEv T d y pc L (.int i :: .ref k :: st) M Q := pvEv.step hdg rfl (by simp only [pvStp, pvAld]; rw [if_pos (pvIx_t hk hkd hln hin)]; rfl) kk
theorem pv_iast {k n : Nat} {i x : Int32} (hk : k < T.1) (hkd : T.2.1 k = 0) (hln : T.2.2.1 k = n) (hin : vp_in i n) (hdg : decode y.2.1 pc = .ok (.iastore, 1)) (kk : pvEv T d y (pc + 1) L st (fmI M k i.toNatClampNeg x) Q) : pvEv T d y pc L (.int x :: .int i :: .ref k :: st) M Q := pvEv.step hdg rfl (by simp only [pvStp, pvAst]; rw [if_pos (pvIx_t hk hkd hln hin)]; rfl) kk
theorem pv_bast {k n : Nat} {i x : Int32} (hk : k < T.1) (hkd : T.2.1 k = 2) (hln : T.2.2.1 k = n) (hin : vp_in i n) (hdg : decode y.2.1 pc = .ok (.bastore, 1)) (kk : pvEv T d y (pc + 1) L st (fmI M k i.toNatClampNeg (vp_nar .byte x)) Q) : pvEv T d y pc L (.int x :: .int i :: .ref k :: st) M Q := pvEv.step hdg rfl (by simp only [pvStp, pvAst]; rw [if_pos (pvIx_t hk hkd hln hin)]; rfl) kk
theorem pv_last {k n : Nat} {i : Int32} {x : Int64} (hk : k < T.1) (hkd : T.2.1 k = 1) (hln : T.2.2.1 k = n) (hin : vp_in i n) (hdg : decode y.2.1 pc = .ok (.lastore, 1)) (kk : pvEv T d y (pc + 1) L st (fmJ M k i.toNatClampNeg x) Q) : pvEv T d y pc L (.long x :: .int i :: .ref k :: st) M Q := pvEv.step hdg rfl (by simp only [pvStp, pvAst]; rw [if_pos (pvIx_t hk hkd hln hin)]; rfl) kk
theorem pv_aald {k n r : Nat} {i : Int32} (hk : k < T.1) (hkd : T.2.1 k = 3 ∨ T.2.1 k = 4 ∨ T.2.1 k = 5) (hln : T.2.2.1 k = n) (hin : vp_in i n) (hr : T.2.2.2 k i.toNatClampNeg = r) (h1 : r < 1000) (hdg : decode y.2.1 pc = .ok (.aaload, 1)) (kk : pvEv T d y (pc + 1) L (.ref r :: st) M Q) : pvEv T d y pc L (.int i :: .ref k :: st) M Q := by
  subst hr
  have hb : ((pvIx T k 3 i || pvIx T k 4 i || pvIx T k 5 i) && Nat.blt (T.2.2.2 k i.toNatClampNeg) 1000) = true := by
    rw [Bool.and_eq_true, Bool.or_eq_true, Bool.or_eq_true]
    refine ⟨?_, by simp [h1]⟩
    rcases hkd with e | e | e
    · exact Or.inl (Or.inl (pvIx_t hk e hln hin))
    · exact Or.inl (Or.inr (pvIx_t hk e hln hin))
    · exact Or.inr (pvIx_t hk e hln hin)
  exact pvEv.step hdg rfl (by simp only [pvStp, pvAald]; rw [if_pos hb]; rfl) kk
theorem pv_alen {k n : Nat} {v : Int32} (hk : k < T.1) (hkd : T.2.1 k = 0 ∨ T.2.1 k = 1) (hln : T.2.2.1 k = n) (hv : Int32.ofNat n = v) (hdg : decode y.2.1 pc = .ok (.arraylength, 1)) (kk : pvEv T d y (pc + 1) L (.int v :: st) M Q) : pvEv T d y pc L (.ref k :: st) M Q := by
  subst hv
  subst hln
  have hb : (Nat.blt k T.1 && (Nat.beq (T.2.1 k) 0 || Nat.beq (T.2.1 k) 1)) = true := by
    simp only [Bool.and_eq_true, Bool.or_eq_true, Nat.blt_eq, Nat.beq_eq]
    exact ⟨hk, hkd⟩
  exact pvEv.step hdg rfl (by simp only [pvStp, pvAlen]; rw [if_pos hb]; rfl) kk
theorem pv_alenI {k n : Nat} {v : Int32} (hk : k < T.1) (hkd : T.2.1 k = 0) (hln : T.2.2.1 k = n) (hv : Int32.ofNat n = v) (hdg : decode y.2.1 pc = .ok (.arraylength, 1)) (kk : pvEv T d y (pc + 1) L (.int v :: st) M Q) : pvEv T d y pc L (.ref k :: st) M Q := pv_alen hk (Or.inl hkd) hln hv hdg kk
theorem pv_alenJ {k n : Nat} {v : Int32} (hk : k < T.1) (hkd : T.2.1 k = 1) (hln : T.2.2.1 k = n) (hv : Int32.ofNat n = v) (hdg : decode y.2.1 pc = .ok (.arraylength, 1)) (kk : pvEv T d y (pc + 1) L (.int v :: st) M Q) : pvEv T d y pc L (.ref k :: st) M Q := pv_alen hk (Or.inr hkd) hln hv hdg kk
theorem pv_ldc {i0 : Nat} {v : Int32} (hw : pvKc y.1.cls idx = some (i0, .inl v)) (hdg : decode y.2.1 pc = .ok (.ldc idx, 2)) (k : pvEv T d y (pc + 2) L (.int v :: st) M Q) : pvEv T d y pc L st M Q := pvEv.step hdg rfl (by simp only [pvStp, pvLdc, hw]; rfl) k
theorem pv_ldcw {i0 : Nat} {v : Int32} (hw : pvKc y.1.cls idx = some (i0, .inl v)) (hdg : decode y.2.1 pc = .ok (.ldc_w idx, 3)) (k : pvEv T d y (pc + 3) L (.int v :: st) M Q) : pvEv T d y pc L st M Q := pvEv.step hdg rfl (by simp only [pvStp, pvLdcw, hw]; rfl) k
theorem pv_ldc2 {i0 : Nat} {v : Int64} (hw : pvKc y.1.cls idx = some (i0, .inr v)) (hdg : decode y.2.1 pc = .ok (.ldc2_w idx, 3)) (k : pvEv T d y (pc + 3) L (.long v :: st) M Q) : pvEv T d y pc L st M Q := pvEv.step hdg rfl (by simp only [pvStp, pvLdc2, hw]; rfl) k
theorem pv_ldcT {i0 i : Nat} (hw : pvKc y.1.cls idx = none) (ht : pvTx y.1.cls idx = some (i0, i)) (hdg : decode y.2.1 pc = .ok (.ldc idx, 2)) (k : pvEv T d y (pc + 2) L (.ref (1000 + i) :: st) M Q) : pvEv T d y pc L st M Q := pvEv.step hdg rfl (by simp only [pvStp, pvLdc, hw, ht]; rfl) k
theorem pv_copy {k0 k1 n0 n1 : Nat} {sp dp n : Int32} (hm : pvMm y.1.cls idx = none) (hc : pvCp y.1.cls idx = true) (hk0 : k0 < T.1) (hd0 : T.2.1 k0 = 0) (hn0 : T.2.2.1 k0 = n0) (hk1 : k1 < T.1) (hd1 : T.2.1 k1 = 0) (hn1 : T.2.2.1 k1 = n1) (h1 : 0 ≤ sp.toInt) (h2 : 0 ≤ dp.toInt) (h3 : 0 ≤ n.toInt) (h4 : sp.toNatClampNeg + n.toNatClampNeg ≤ n0) (h5 : dp.toNatClampNeg + n.toNatClampNeg ≤ n1) (hca : pvCat st ≤ 60) (hdg : decode y.2.1 pc = .ok (.invokestatic idx, 3)) (kk : pvEv T d y (pc + 3) L st (fmA M k1 (va_cpy (M.1 k0) (M.1 k1) sp.toNatClampNeg dp.toNatClampNeg n.toNatClampNeg)) Q) : pvEv T d y pc L (.int n :: .int dp :: .ref k1 :: .int sp :: .ref k0 :: st) M Q := by
  subst hn0
  subst hn1
  refine pvEv.step (q := (pc + 3, L, st, _)) hdg rfl ?_ kk
  simp only [pvStp, pvStat, hm, hc, if_true, pvCopy]
  rw [if_pos]
  · rfl
  · simp only [Bool.and_eq_true, Nat.blt_eq, Nat.beq_eq, Nat.ble_eq, decide_eq_true_eq]
    exact ⟨⟨⟨⟨⟨⟨⟨⟨⟨hk0, hd0⟩, hk1⟩, hd1⟩, h1⟩, h2⟩, h3⟩, h4⟩, h5⟩, hca⟩
theorem pv_mm {i0 : Nat} {b : Bool} {x z : Int32} (hm : pvMm y.1.cls idx = some (i0, b)) (hd1 : 1 ≤ d) (hca : pvCat st ≤ 8) (hdg : decode y.2.1 pc = .ok (.invokestatic idx, 3)) (kk : pvEv T d y (pc + 3) L (.int (pvMx b x z) :: st) M Q) : pvEv T d y pc L (.int z :: .int x :: st) M Q := by
  refine pvEv.step (q := (pc + 3, L, _, M)) hdg rfl ?_ kk
  simp only [pvStp, pvStat, hm]
  rw [if_pos (by simp [hd1, hca])]
  rfl
theorem pv_ml {i0 : Nat} {b : Bool} {x z : Int64} (hm : pvMm y.1.cls idx = none) (hc : pvCp y.1.cls idx = false) (hl : pvMl y.1.cls idx = some (i0, b)) (hd1 : 1 ≤ d) (hca : pvCat st ≤ 8) (hdg : decode y.2.1 pc = .ok (.invokestatic idx, 3)) (kk : pvEv T d y (pc + 3) L (.long (pvMxl b x z) :: st) M Q) : pvEv T d y pc L (.long z :: .long x :: st) M Q := by
  refine pvEv.step (q := (pc + 3, L, _, M)) hdg rfl ?_ kk
  simp only [pvStp, pvStat, hm, hc, hl]
  rw [if_neg Bool.false_ne_true]
  rw [if_pos (by simp [hd1, hca])]
  rfl
theorem pv_strlen {i0 i ci : Nat} {y' : fmY} (hq : pvCq y.1.cls idx = some (i0, 2, ci, 0, y')) (hi : i < 5) (hd2 : 2 ≤ d) (hca : pvCat st ≤ 8) (hdg : decode y.2.1 pc = .ok (.invokevirtual idx, 3)) (kk : pvEv T d y (pc + 3) L (.int (nI (fmLen.getD i 0)) :: st) M Q) : pvEv T d y pc L (.ref (1000 + i) :: st) M Q := by
  refine pvEv.step (q := (pc + 3, L, _, M)) hdg rfl ?_ kk
  simp only [pvStp, pvVirt, hq, pvCal]
  rw [if_pos (by simp)]
  rw [if_pos (by simp [hi, hd2, hca])]
  rw [Nat.add_sub_cancel_left]
  rfl
theorem pv_charAt {i0 i ci : Nat} {y' : fmY} {x : Int32} (hq : pvCq y.1.cls idx = some (i0, 3, ci, 1, y')) (hi : i < 5) (h0 : 0 ≤ x.toInt) (h1 : x.toInt < (fmLen.getD i 0 : Int)) (hd2 : 4 ≤ d) (hca : pvCat st ≤ 8) (hdg : decode y.2.1 pc = .ok (.invokevirtual idx, 3)) (kk : pvEv T d y (pc + 3) L (.int (chE i x.toNatClampNeg) :: st) M Q) : pvEv T d y pc L (.int x :: .ref (1000 + i) :: st) M Q := by
  refine pvEv.step (q := (pc + 3, L, _, M)) hdg rfl ?_ kk
  simp only [pvStp, pvVirt, hq, pvCal]
  rw [if_pos (by simp)]
  rw [Nat.add_sub_cancel_left]
  rw [if_pos (by simp only [Bool.and_eq_true, Nat.ble_eq, Nat.blt_eq, decide_eq_true_eq]; exact ⟨⟨⟨⟨⟨by omega, hi⟩, hd2⟩, hca⟩, h0⟩, h1⟩)]
  rfl
theorem pv_table {dflt lo hi : Int} {offs : Array Int} {len : Nat} {x : Int32} (tgt : Nat) (hsz : offs.size = (hi - lo + 1).toNat) (ht : fmTsw pc dflt lo hi offs x = (tgt : Int)) (hdg : decode y.2.1 pc = .ok (.tableswitch dflt lo hi offs, len)) (k : pvEv T d y tgt L st M Q) : pvEv T d y pc L (.int x :: st) M Q := by
  refine pvEv.step (q := (tgt, L, st, M)) hdg rfl ?_ k
  simp only [pvStp]
  rw [if_pos (by rw [ht]; simp only [Bool.and_eq_true, decide_eq_true_eq]; exact ⟨hsz, by omega⟩), ht]
  rfl
theorem pv_lookup {dflt : Int} {ps : Array (Int × Int)} {len : Nat} {x : Int32} (tgt : Nat) (hp : (ps.toList.zip (ps.toList.drop 1)).all (fun (a, next) => a.1 < next.1) = true) (ht : (pc : Int) + Op.lookupswitch.offset ps.toList dflt x.toInt = (tgt : Int)) (hdg : decode y.2.1 pc = .ok (.lookupswitch dflt ps, len)) (k : pvEv T d y tgt L st M Q) : pvEv T d y pc L (.int x :: st) M Q := by
  refine pvEv.step (q := (tgt, L, st, M)) hdg rfl ?_ k
  simp only [pvStp]
  rw [if_pos (by rw [ht]; rw [Bool.and_eq_true, decide_eq_true_eq]; exact ⟨hp, by omega⟩), ht]
  rfl
theorem pv_ireturn {v : Int32} (hr : y.2.2.2 = some .int) (hdg : decode y.2.1 pc = .ok (.ireturn, 1)) (hq : Q (.inl (some (.int v))) M) : pvEv T d y pc L [.int v] M Q := pvEv.stop hdg rfl (by simp only [pvStp, hr]; rfl) hq
theorem pv_zreturn {v : Int32} (hr : y.2.2.2 = some .boolean) (hv : v = 0 ∨ v = 1) (hdg : decode y.2.1 pc = .ok (.ireturn, 1)) (hq : Q (.inl (some (.int v))) M) : pvEv T d y pc L [.int v] M Q := pvEv.stop hdg rfl (by simp only [pvStp, hr, pvRetI]; rw [if_pos (by simpa using hv)]; rfl) hq
theorem pv_lreturn {v : Int64} (hr : y.2.2.2 = some .long) (hdg : decode y.2.1 pc = .ok (.lreturn, 1)) (hq : Q (.inl (some (.long v))) M) : pvEv T d y pc L [.long v] M Q := pvEv.stop hdg rfl (by simp only [pvStp, hr, if_true]; rfl) hq
theorem pv_return (hr : y.2.2.2 = none) (hdg : decode y.2.1 pc = .ok (.return_, 1)) (hq : Q (.inl none) M) : pvEv T d y pc L [] M Q := pvEv.stop hdg rfl (by simp only [pvStp, hr, if_true]; rfl) hq
theorem pv_thrI (hk : pvK y.1.cls = 10) (d0 : decode y.2.1 pc = .ok (.new 376, 3)) (d3 : decode y.2.1 (pc + 3) = .ok (.dup, 1)) (d4 : decode y.2.1 (pc + 4) = .ok (.ldc_w 378, 3)) (d7 : decode y.2.1 (pc + 7) = .ok (.invokespecial 380, 3)) (d10 : decode y.2.1 (pc + 10) = .ok (.athrow, 1)) (hq : Q (.inr fmIAE) M) : pvEv T d y pc L [] M Q := pvEv.stop d0 rfl (by simp only [pvStp, pvThr]; rw [if_pos (by simp [hk, d3, d10]), if_pos (by simp [d4, d7])]; rfl) hq
theorem pv_thrN (hk : pvK y.1.cls = 10) (d0 : decode y.2.1 pc = .ok (.new 369, 3)) (d3 : decode y.2.1 (pc + 3) = .ok (.dup, 1)) (d4 : decode y.2.1 (pc + 4) = .ok (.ldc_w 371, 3)) (d7 : decode y.2.1 (pc + 7) = .ok (.invokespecial 373, 3)) (d10 : decode y.2.1 (pc + 10) = .ok (.athrow, 1)) (hq : Q (.inr fmNSE) M) : pvEv T d y pc L [] M Q := pvEv.stop d0 rfl (by simp only [pvStp, pvThr]; rw [if_pos (by simp [hk, d3, d10]), if_neg (by simp), if_pos (by simp [d4, d7])]; rfl) hq
theorem pv_invV {i0 k ci : Nat} {args' : List Value} (hc : pvCq y.1.cls idx = some (i0, 0, ci, n, y')) (hk : k < T.1) (hkd : T.2.1 k = ci + 6) (hn : As.length = n) (hargs : args' = .ref k :: As) {st0 : List Value} (hst0 : st0 = As.reverse ++ .ref k :: st) (hcat : pvCat st ≤ 8) (hd : d' + 1 ≤ d) (hdg : decode y.2.1 pc = .ok (.invokevirtual idx, 3)) (hg : pvGood T d' y' args' M (pvThen T d y (pc + 3) L st Q)) : pvEv T d y pc L st0 M Q := by
  subst hst0
  subst hargs
  subst hn
  have hl : As.reverse.length = As.length := by simp
  refine pvEv.call hd hdg rfl ?_ hg
  simp only [pvStp, pvVirt, hc, pvCal]
  rw [if_pos (by simp)]
  rw [← hl, List.drop_left]
  simp only
  rw [if_pos (by simp [hk, hkd, hcat])]
  rw [List.take_left, List.reverse_reverse]
theorem pv_invS {i0 ci : Nat} {args' : List Value} (hm : pvMm y.1.cls idx = none) (hcp : pvCp y.1.cls idx = false) (hml : pvMl y.1.cls idx = none) (hc : pvCq y.1.cls idx = some (i0, 1, ci, n, y')) (hn : args'.length = n) {st0 : List Value} (hst0 : st0 = args'.reverse ++ st) (hcat : pvCat st ≤ 8) (hd : d' + 1 ≤ d) (hdg : decode y.2.1 pc = .ok (.invokestatic idx, 3)) (hg : pvGood T d' y' args' M (pvThen T d y (pc + 3) L st Q)) : pvEv T d y pc L st0 M Q := by
  subst hst0
  subst hn
  have hl : args'.reverse.length = args'.length := by simp
  refine pvEv.call hd hdg rfl ?_ hg
  simp only [pvStp, pvStat, hm, hcp, hml, hc, pvCal]
  rw [if_neg Bool.false_ne_true]
  rw [if_pos (by simp)]
  rw [← hl, List.drop_left]
  rw [if_pos (by simp [hcat])]
  rw [List.take_left, List.reverse_reverse]
theorem pv_then1 {M' : fmM} {v : Value} (h : pvEv T d y pc L (v :: st) M' Q) : pvThen T d y pc L st Q (.inl (some v)) M' := h
theorem pv_then0 {M' : fmM} (h : pvEv T d y pc L st M' Q) : pvThen T d y pc L st Q (.inl none) M' := h
theorem pv_thenX {M' : fmM} {E : String} (h : Q (.inr E) M') : pvThen T d y pc L st Q (.inr E) M' := h
theorem pvGood_of {args : List Value} (hlen : (lg_sl args).length ≤ y.2.2.1) (h : pvEv T d y 0 (pvEnt y args) [] M Q) : pvGood T d y args M Q := ⟨hlen, h⟩
theorem pv_top {x : Int32} (k : ∀ z : Int32, z = x → pvEv T d y pc L (.int z :: st) M Q) : pvEv T d y pc L (.int x :: st) M Q := k x rfl
theorem pv_iloadn {n : Fin 4} {x : Int32} (i : Nat) (hi : (n : Nat) = i) (hv : L[i]? = some (some (.int x))) (hdg : decode y.2.1 pc = .ok (.iload_n n, 1)) (k : pvEv T d y (pc + 1) L (.int x :: st) M Q) : pvEv T d y pc L st M Q := pv_iload_n (by rw [hi]; exact hv) hdg k
theorem pv_lloadn {n : Fin 4} {x : Int64} (i : Nat) (hi : (n : Nat) = i) (hv : L[i]? = some (some (.long x))) (hdg : decode y.2.1 pc = .ok (.lload_n n, 1)) (k : pvEv T d y (pc + 1) L (.long x :: st) M Q) : pvEv T d y pc L st M Q := pv_lload_n (by rw [hi]; exact hv) hdg k
theorem pv_aloadn {n : Fin 4} {x : Nat} (i : Nat) (hi : (n : Nat) = i) (hv : L[i]? = some (some (.ref x))) (hdg : decode y.2.1 pc = .ok (.aload_n n, 1)) (k : pvEv T d y (pc + 1) L (.ref x :: st) M Q) : pvEv T d y pc L st M Q := pv_aload_n (by rw [hi]; exact hv) hdg k
theorem pv_istoren {n : Fin 4} {x : Int32} (i : Nat) (hi : (n : Nat) = i) (hn : i < y.2.2.1) (h2 : fmNo2 L i = true) (hdg : decode y.2.1 pc = .ok (.istore_n n, 1)) (k : pvEv T d y (pc + 1) (L.set i (some (.int x))) st M Q) : pvEv T d y pc L (.int x :: st) M Q := by
  subst hi
  exact pv_istore_n hn h2 hdg k
theorem pv_astoren {n : Fin 4} {x : Nat} (i : Nat) (hi : (n : Nat) = i) (hn : i < y.2.2.1) (h2 : fmNo2 L i = true) (hdg : decode y.2.1 pc = .ok (.astore_n n, 1)) (k : pvEv T d y (pc + 1) (L.set i (some (.ref x))) st M Q) : pvEv T d y pc L (.ref x :: st) M Q := by
  subst hi
  exact pv_astore_n hn h2 hdg k
theorem pv_lstoren {n : Fin 4} {x : Int64} (i : Nat) (hi : (n : Nat) = i) (hn : i + 1 < y.2.2.1) (h2 : fmNo2 L i = true) (hdg : decode y.2.1 pc = .ok (.lstore_n n, 1)) (k : pvEv T d y (pc + 1) ((L.set i (some (.long x))).set (i + 1) none) st M Q) : pvEv T d y pc L (.long x :: st) M Q := by
  subst hi
  exact pv_lstore_n hn h2 hdg k
theorem pv_iincc (i : Nat) {n : Int} {x : Int32} (c : Int32) (hc : Int32.ofInt n = c) (hl : L[i]? = some (some (.int x))) (hn : i < y.2.2.1) (h2 : fmNo2 L i = true) (hdg : decode y.2.1 pc = .ok (.iinc i n, 3)) (k : pvEv T d y (pc + 3) (L.set i (some (.int (x + c)))) st M Q) : pvEv T d y pc L st M Q := pv_iinc hl (by rw [hc]) hn h2 hdg k
theorem pv_invV0 {i0 k ci : Nat} (hc : pvCq y.1.cls idx = some (i0, 0, ci, 0, y')) (hk : k < T.1) (hkd : T.2.1 k = ci + 6) (hcat : pvCat st ≤ 8) (hd : d' + 1 ≤ d) (hdg : decode y.2.1 pc = .ok (.invokevirtual idx, 3)) (hg : pvGood T d' y' [.ref k] M (pvThen T d y (pc + 3) L st Q)) : pvEv T d y pc L (.ref k :: st) M Q := pv_invV (As := []) hc hk hkd rfl rfl rfl hcat hd hdg hg
theorem pv_invV1 {i0 k ci : Nat} {a0 : Value} (hc : pvCq y.1.cls idx = some (i0, 0, ci, 1, y')) (hk : k < T.1) (hkd : T.2.1 k = ci + 6) (hcat : pvCat st ≤ 8) (hd : d' + 1 ≤ d) (hdg : decode y.2.1 pc = .ok (.invokevirtual idx, 3)) (hg : pvGood T d' y' [.ref k, a0] M (pvThen T d y (pc + 3) L st Q)) : pvEv T d y pc L (a0 :: .ref k :: st) M Q := pv_invV (As := [a0]) hc hk hkd rfl rfl rfl hcat hd hdg hg
theorem pv_invV2 {i0 k ci : Nat} {a0 a1 : Value} (hc : pvCq y.1.cls idx = some (i0, 0, ci, 2, y')) (hk : k < T.1) (hkd : T.2.1 k = ci + 6) (hcat : pvCat st ≤ 8) (hd : d' + 1 ≤ d) (hdg : decode y.2.1 pc = .ok (.invokevirtual idx, 3)) (hg : pvGood T d' y' [.ref k, a0, a1] M (pvThen T d y (pc + 3) L st Q)) : pvEv T d y pc L (a1 :: a0 :: .ref k :: st) M Q := pv_invV (As := [a0, a1]) hc hk hkd rfl rfl rfl hcat hd hdg hg
theorem pv_invV3 {i0 k ci : Nat} {a0 a1 a2 : Value} (hc : pvCq y.1.cls idx = some (i0, 0, ci, 3, y')) (hk : k < T.1) (hkd : T.2.1 k = ci + 6) (hcat : pvCat st ≤ 8) (hd : d' + 1 ≤ d) (hdg : decode y.2.1 pc = .ok (.invokevirtual idx, 3)) (hg : pvGood T d' y' [.ref k, a0, a1, a2] M (pvThen T d y (pc + 3) L st Q)) : pvEv T d y pc L (a2 :: a1 :: a0 :: .ref k :: st) M Q := pv_invV (As := [a0, a1, a2]) hc hk hkd rfl rfl rfl hcat hd hdg hg
theorem pv_invV4 {i0 k ci : Nat} {a0 a1 a2 a3 : Value} (hc : pvCq y.1.cls idx = some (i0, 0, ci, 4, y')) (hk : k < T.1) (hkd : T.2.1 k = ci + 6) (hcat : pvCat st ≤ 8) (hd : d' + 1 ≤ d) (hdg : decode y.2.1 pc = .ok (.invokevirtual idx, 3)) (hg : pvGood T d' y' [.ref k, a0, a1, a2, a3] M (pvThen T d y (pc + 3) L st Q)) : pvEv T d y pc L (a3 :: a2 :: a1 :: a0 :: .ref k :: st) M Q := pv_invV (As := [a0, a1, a2, a3]) hc hk hkd rfl rfl rfl hcat hd hdg hg
theorem pv_invV5 {i0 k ci : Nat} {a0 a1 a2 a3 a4 : Value} (hc : pvCq y.1.cls idx = some (i0, 0, ci, 5, y')) (hk : k < T.1) (hkd : T.2.1 k = ci + 6) (hcat : pvCat st ≤ 8) (hd : d' + 1 ≤ d) (hdg : decode y.2.1 pc = .ok (.invokevirtual idx, 3)) (hg : pvGood T d' y' [.ref k, a0, a1, a2, a3, a4] M (pvThen T d y (pc + 3) L st Q)) : pvEv T d y pc L (a4 :: a3 :: a2 :: a1 :: a0 :: .ref k :: st) M Q := pv_invV (As := [a0, a1, a2, a3, a4]) hc hk hkd rfl rfl rfl hcat hd hdg hg
theorem pv_invV6 {i0 k ci : Nat} {a0 a1 a2 a3 a4 a5 : Value} (hc : pvCq y.1.cls idx = some (i0, 0, ci, 6, y')) (hk : k < T.1) (hkd : T.2.1 k = ci + 6) (hcat : pvCat st ≤ 8) (hd : d' + 1 ≤ d) (hdg : decode y.2.1 pc = .ok (.invokevirtual idx, 3)) (hg : pvGood T d' y' [.ref k, a0, a1, a2, a3, a4, a5] M (pvThen T d y (pc + 3) L st Q)) : pvEv T d y pc L (a5 :: a4 :: a3 :: a2 :: a1 :: a0 :: .ref k :: st) M Q := pv_invV (As := [a0, a1, a2, a3, a4, a5]) hc hk hkd rfl rfl rfl hcat hd hdg hg
theorem pv_invS1 {i0 ci : Nat} {a0 : Value} (hm : pvMm y.1.cls idx = none) (hcp : pvCp y.1.cls idx = false) (hml : pvMl y.1.cls idx = none) (hc : pvCq y.1.cls idx = some (i0, 1, ci, 1, y')) (hcat : pvCat st ≤ 8) (hd : d' + 1 ≤ d) (hdg : decode y.2.1 pc = .ok (.invokestatic idx, 3)) (hg : pvGood T d' y' [a0] M (pvThen T d y (pc + 3) L st Q)) : pvEv T d y pc L (a0 :: st) M Q := pv_invS (args' := [a0]) hm hcp hml hc rfl rfl hcat hd hdg hg
theorem pv_invS2 {i0 ci : Nat} {a0 a1 : Value} (hm : pvMm y.1.cls idx = none) (hcp : pvCp y.1.cls idx = false) (hml : pvMl y.1.cls idx = none) (hc : pvCq y.1.cls idx = some (i0, 1, ci, 2, y')) (hcat : pvCat st ≤ 8) (hd : d' + 1 ≤ d) (hdg : decode y.2.1 pc = .ok (.invokestatic idx, 3)) (hg : pvGood T d' y' [a0, a1] M (pvThen T d y (pc + 3) L st Q)) : pvEv T d y pc L (a1 :: a0 :: st) M Q := pv_invS (args' := [a0, a1]) hm hcp hml hc rfl rfl hcat hd hdg hg
theorem pv_invS3 {i0 ci : Nat} {a0 a1 a2 : Value} (hm : pvMm y.1.cls idx = none) (hcp : pvCp y.1.cls idx = false) (hml : pvMl y.1.cls idx = none) (hc : pvCq y.1.cls idx = some (i0, 1, ci, 3, y')) (hcat : pvCat st ≤ 8) (hd : d' + 1 ≤ d) (hdg : decode y.2.1 pc = .ok (.invokestatic idx, 3)) (hg : pvGood T d' y' [a0, a1, a2] M (pvThen T d y (pc + 3) L st Q)) : pvEv T d y pc L (a2 :: a1 :: a0 :: st) M Q := pv_invS (args' := [a0, a1, a2]) hm hcp hml hc rfl rfl hcat hd hdg hg
theorem pv_invS4 {i0 ci : Nat} {a0 a1 a2 a3 : Value} (hm : pvMm y.1.cls idx = none) (hcp : pvCp y.1.cls idx = false) (hml : pvMl y.1.cls idx = none) (hc : pvCq y.1.cls idx = some (i0, 1, ci, 4, y')) (hcat : pvCat st ≤ 8) (hd : d' + 1 ≤ d) (hdg : decode y.2.1 pc = .ok (.invokestatic idx, 3)) (hg : pvGood T d' y' [a0, a1, a2, a3] M (pvThen T d y (pc + 3) L st Q)) : pvEv T d y pc L (a3 :: a2 :: a1 :: a0 :: st) M Q := pv_invS (args' := [a0, a1, a2, a3]) hm hcp hml hc rfl rfl hcat hd hdg hg
theorem pv_invS5 {i0 ci : Nat} {a0 a1 a2 a3 a4 : Value} (hm : pvMm y.1.cls idx = none) (hcp : pvCp y.1.cls idx = false) (hml : pvMl y.1.cls idx = none) (hc : pvCq y.1.cls idx = some (i0, 1, ci, 5, y')) (hcat : pvCat st ≤ 8) (hd : d' + 1 ≤ d) (hdg : decode y.2.1 pc = .ok (.invokestatic idx, 3)) (hg : pvGood T d' y' [a0, a1, a2, a3, a4] M (pvThen T d y (pc + 3) L st Q)) : pvEv T d y pc L (a4 :: a3 :: a2 :: a1 :: a0 :: st) M Q := pv_invS (args' := [a0, a1, a2, a3, a4]) hm hcp hml hc rfl rfl hcat hd hdg hg
theorem pv_invS6 {i0 ci : Nat} {a0 a1 a2 a3 a4 a5 : Value} (hm : pvMm y.1.cls idx = none) (hcp : pvCp y.1.cls idx = false) (hml : pvMl y.1.cls idx = none) (hc : pvCq y.1.cls idx = some (i0, 1, ci, 6, y')) (hcat : pvCat st ≤ 8) (hd : d' + 1 ≤ d) (hdg : decode y.2.1 pc = .ok (.invokestatic idx, 3)) (hg : pvGood T d' y' [a0, a1, a2, a3, a4, a5] M (pvThen T d y (pc + 3) L st Q)) : pvEv T d y pc L (a5 :: a4 :: a3 :: a2 :: a1 :: a0 :: st) M Q := pv_invS (args' := [a0, a1, a2, a3, a4, a5]) hm hcp hml hc rfl rfl hcat hd hdg hg
theorem pv_invS7 {i0 ci : Nat} {a0 a1 a2 a3 a4 a5 a6 : Value} (hm : pvMm y.1.cls idx = none) (hcp : pvCp y.1.cls idx = false) (hml : pvMl y.1.cls idx = none) (hc : pvCq y.1.cls idx = some (i0, 1, ci, 7, y')) (hcat : pvCat st ≤ 8) (hd : d' + 1 ≤ d) (hdg : decode y.2.1 pc = .ok (.invokestatic idx, 3)) (hg : pvGood T d' y' [a0, a1, a2, a3, a4, a5, a6] M (pvThen T d y (pc + 3) L st Q)) : pvEv T d y pc L (a6 :: a5 :: a4 :: a3 :: a2 :: a1 :: a0 :: st) M Q := pv_invS (args' := [a0, a1, a2, a3, a4, a5, a6]) hm hcp hml hc rfl rfl hcat hd hdg hg
theorem pv_stI_n {n : Fin 4} {x : Int32} (hn : (n : Nat) < y.2.2.1) (hdg : decode y.2.1 pc = .ok (.istore_n n, 1)) (k : pvEv T d y (pc + 1) ((pvKill L (n : Nat)).set (n : Nat) (some (.int x))) st M Q) : pvEv T d y pc L (.int x :: st) M Q := pvEv.step hdg rfl (by simp only [pvStp, pvStor]; rw [if_pos (by simp [hn])]; rfl) k
theorem pv_stJ_n {n : Fin 4} {x : Int64} (hn : (n : Nat) + 1 < y.2.2.1) (hdg : decode y.2.1 pc = .ok (.lstore_n n, 1)) (k : pvEv T d y (pc + 1) (((pvKill L (n : Nat)).set (n : Nat) (some (.long x))).set ((n : Nat) + 1) none) st M Q) : pvEv T d y pc L (.long x :: st) M Q := pvEv.step hdg rfl (by simp only [pvStp, pvStor]; rw [if_pos (by simp [hn])]; rfl) k
theorem pv_stR_n {n : Fin 4} {x : Nat} (hn : (n : Nat) < y.2.2.1) (hdg : decode y.2.1 pc = .ok (.astore_n n, 1)) (k : pvEv T d y (pc + 1) ((pvKill L (n : Nat)).set (n : Nat) (some (.ref x))) st M Q) : pvEv T d y pc L (.ref x :: st) M Q := pvEv.step hdg rfl (by simp only [pvStp, pvStor]; rw [if_pos (by simp [hn])]; rfl) k
theorem pv_stI {n : Nat} {x : Int32} (hn : n < y.2.2.1) (hdg : decode y.2.1 pc = .ok (.istore n, 2)) (k : pvEv T d y (pc + 2) ((pvKill L n).set n (some (.int x))) st M Q) : pvEv T d y pc L (.int x :: st) M Q := pvEv.step hdg rfl (by simp only [pvStp, pvStor]; rw [if_pos (by simp [hn])]; rfl) k
theorem pv_stJ {n : Nat} {x : Int64} (hn : n + 1 < y.2.2.1) (hdg : decode y.2.1 pc = .ok (.lstore n, 2)) (k : pvEv T d y (pc + 2) (((pvKill L n).set n (some (.long x))).set (n + 1) none) st M Q) : pvEv T d y pc L (.long x :: st) M Q := pvEv.step hdg rfl (by simp only [pvStp, pvStor]; rw [if_pos (by simp [hn])]; rfl) k
theorem pv_stR {n : Nat} {x : Nat} (hn : n < y.2.2.1) (hdg : decode y.2.1 pc = .ok (.astore n, 2)) (k : pvEv T d y (pc + 2) ((pvKill L n).set n (some (.ref x))) st M Q) : pvEv T d y pc L (.ref x :: st) M Q := pvEv.step hdg rfl (by simp only [pvStp, pvStor]; rw [if_pos (by simp [hn])]; rfl) k
theorem pv_stinc {i : Nat} {n : Int} {x : Int32} (hl : L.getD i none = some (.int x)) (hn : i < y.2.2.1) (hdg : decode y.2.1 pc = .ok (.iinc i n, 3)) (k : pvEv T d y (pc + 3) ((pvKill L i).set i (some (.int (x + Int32.ofInt n)))) st M Q) : pvEv T d y pc L st M Q := pvEv.step hdg rfl (by simp only [pvStp, hl]; rw [if_pos (by simp [hn])]; rfl) k
end PvRows
end
-- P 10fz
section
-- WHAT THE REFERENCE KEEPS BESIDE BOUNDS: its law is well-formed, its lives take hours
abbrev tC : Type := List (Nat × Nat)
/-- the stack's height behind such a code -/
def dpR : Nat → tC → Option Nat
  | d, [] => some d
  | d, c :: cs => if c.1 < 2 then (if c.1 = 1 ∧ 4 < c.2 then none else dpR (d + 1) cs) else (if 2 ≤ d then dpR (d - 1) cs else none)
def lwHas (m : Nat → Nat → Int32) (b : Nat) (cs : tC) : Prop := ∀ (i : Nat) (c : Nat × Nat), cs[i]? = some c → (m (b + i) 0).toInt = c.1 ∧ (m (b + i) 1).toInt = c.2
def jmOk (m : Nat → Nat → Int32) : Prop := (∃ cs : tC, (m 0 17).toInt = (cs.length : Int) ∧ cs.length ≤ 160 ∧ (cs = [] ∨ dpR 0 cs = some 1) ∧ lwHas m 91 cs) ∧ ∀ i : Nat, i < 8 → (i : Int) < (m 4 0).toInt → 1 ≤ (m (35 + i) 3).toInt
/-- places that it speaks of -/
def jmPr (k j : Nat) : Bool := (Nat.ble 91 k && Nat.blt k 251) || (Nat.beq k 0 && Nat.beq j 17) || (Nat.beq k 4 && Nat.beq j 0) || (Nat.ble 35 k && Nat.blt k 43 && Nat.beq j 3)
theorem jm_stable {m m' : Nat → Nat → Int32} (h : jmOk m) (e : ∀ k j, jmPr k j = true → m' k j = m k j) : jmOk m' := by
  obtain ⟨⟨cs, h1, h2, h3, h4⟩, h5⟩ := h
  refine ⟨⟨cs, ?_, h2, h3, fun i c hi => ?_⟩, fun i hi h8 => ?_⟩
  · rw [e 0 17 (by decide)]
    exact h1
  · have hl : i < cs.length := (List.getElem?_eq_some_iff.mp hi).1
    have hp : ∀ j, jmPr (91 + i) j = true := fun j => by
      have h1 : Nat.ble 91 (91 + i) = true := by simp
      have h2 : Nat.blt (91 + i) 251 = true := by simp; omega
      simp only [jmPr, h1, h2, Bool.and_self, Bool.true_or]
    rw [e _ _ (hp 0), e _ _ (hp 1)]
    exact h4 i c hi
  · rw [e 4 0 (by decide)] at h8
    have hp : jmPr (35 + i) 3 = true := by
      have h1 : Nat.ble 35 (35 + i) = true := by simp
      have h2 : Nat.blt (35 + i) 43 = true := by simp; omega
      have h3 : Nat.beq 3 3 = true := rfl
      simp only [jmPr, h1, h2, h3, Bool.and_self, Bool.or_true]
    rw [e _ _ hp]
    exact h5 i hi h8
def scMd (inv : Nat → List (Int × Int)) : Bool := match inv 999 with
  | [e] => decide (e = (1, 1))
  | _ => false
def scJ (inv : Nat → List (Int × Int)) (m : Nat → Nat → Int32) : Prop := scMd inv = true → jmOk m
/-- places a to a + n of cell k aren't of those -/
def jmFree (k a n : Nat) : Bool := !(Nat.ble 91 k && Nat.blt k 251) && !(Nat.beq k 0 && Nat.ble a 17 && Nat.ble 17 (a + n)) && !(Nat.beq k 4 && Nat.beq a 0) && !(Nat.ble 35 k && Nat.blt k 43 && Nat.ble a 3 && Nat.ble 3 (a + n))
def scFree (inv : Nat → List (Int × Int)) (k a n : Nat) : Bool := !scMd inv || jmFree k a n
theorem jmFree_ok {k a n j : Nat} (h : jmFree k a n = true) (h1 : a ≤ j) (h2 : j ≤ a + n) : jmPr k j = false := by
  simp only [jmFree, Bool.and_eq_true, Bool.not_eq_true', Bool.and_eq_false_iff, ← Bool.not_eq_true, Nat.ble_eq, Nat.blt_eq, Nat.beq_eq] at h
  simp only [jmPr, ← Bool.not_eq_true, Bool.or_eq_true, Bool.and_eq_true, Nat.ble_eq, Nat.blt_eq, Nat.beq_eq]
  omega
theorem scFree_ok {inv : Nat → List (Int × Int)} {k a n : Nat} {m m' : Nat → Nat → Int32} (h : scFree inv k a n = true) (hJ : scJ inv m) (e : ∀ k' j', ¬ (k' = k ∧ a ≤ j' ∧ j' ≤ a + n) → m' k' j' = m k' j') : scJ inv m' := by
  intro hm
  refine jm_stable (hJ hm) (fun k' j' hp => e k' j' ?_)
  rintro ⟨e1, h1, h2⟩
  subst e1
  rw [scFree, hm] at h
  have := jmFree_ok (j := j') (by simpa using h) h1 h2
  rw [this] at hp
  cases hp
end
-- P 10ga
section
-- SAFETY BY INTERVALS: a checker of methods over the flat machine
abbrev scI : Type := Int × Int
/-- a number: an unknown (or none) and an offset -/
abbrev scA : Type := Option Nat × Int
/-- a value: an int; a long within bounds; a reference to one of some cells; a text -/
abbrev scV : Type := scA ⊕ (scI ⊕ (List Nat ⊕ Nat))
abbrev scF : Type := (Nat × Nat) × scA
/-- bounds of the unknowns; locals; stack; what is known of memory -/
abbrev scS : Type := List scI × List (Option scV) × List scV × List scF
def scTop : scI := (-2147483648, 2147483647)
def scTopL : scI := (-9223372036854775808, 9223372036854775807)
theorem scq_l (n : Int64) : scTopL.1 ≤ n.toInt ∧ n.toInt ≤ scTopL.2 := by
  have h1 := n.le_toInt
  have h2 := n.toInt_lt
  constructor
  · show -9223372036854775808 ≤ n.toInt
    omega
  · show n.toInt ≤ 9223372036854775807
    omega
def scAt (l : List scI) (j : Nat) : scI := match l with
  | [e] => e
  | l => l.getD j scTop
def scJoin (a b : scI) : scI := (if a.1 ≤ b.1 then a.1 else b.1, if a.2 ≤ b.2 then b.2 else a.2)
def scSub (a b : scI) : Bool := decide (b.1 ≤ a.1) && decide (a.2 ≤ b.2)
/-- bounds of places a to a + n -/
def scRg (l : List scI) (a n : Nat) : scI := match l with
  | [e] => e
  | l => Nat.rec (motive := fun _ => scI) (l.getD a scTop) (fun q r => scJoin r (l.getD (a + q + 1) scTop)) n
def scEv (σ : List Int) (a : scA) (x : Int) : Prop := match a.1 with
  | none => x = a.2
  | some i => ∃ v, σ[i]? = some v ∧ x = v + a.2
def scIv (env : List scI) (a : scA) : scI := match a.1 with
  | none => (a.2, a.2)
  | some i => ((env.getD i scTop).1 + a.2, (env.getD i scTop).2 + a.2)
def scEk (env : List scI) (σ : List Int) : Prop := env.length = σ.length ∧ ∀ (i : Nat) (e : scI) (x : Int), env[i]? = some e → σ[i]? = some x → e.1 ≤ x ∧ x ≤ e.2
def scVk (σ : List Int) (v : scV) (w : Value) : Prop := match v with
  | .inl a => ∃ n : Int32, w = .int n ∧ scEv σ a n.toInt
  | .inr (.inl o) => ∃ n : Int64, w = .long n ∧ o.1 ≤ n.toInt ∧ n.toInt ≤ o.2
  | .inr (.inr (.inl ks)) => ∃ k, k ∈ ks ∧ w = .ref k
  | .inr (.inr (.inr i)) => w = .ref (1000 + i)
def scOk (σ : List Int) (v : Option scV) (w : Option Value) : Prop := match v, w with
  | none, _ => True
  | some v, some w => scVk σ v w
  | some _, none => False
def scLk (σ : List Int) (Λ : List (Option scV)) (L : List (Option Value)) : Prop := Λ.length = L.length ∧ ∀ i : Nat, scOk σ (Λ.getD i none) (L.getD i none)
def scSk (σ : List Int) : List scV → List Value → Prop
  | [], [] => True
  | v :: S, w :: st => scVk σ v w ∧ scSk σ S st
  | _, _ => False
def scFk (σ : List Int) (F : List scF) (M : fmM) : Prop := ∀ f ∈ F, scEv σ f.2 (M.1 f.1.1 f.1.2).toInt
/-- all of memory is within its bounds -/
def scInv (T : fmT) (inv : Nat → List scI) (M : fmM) : Prop := (∀ k j : Nat, j < T.2.2.1 k → (scAt (inv k) j).1 ≤ (M.1 k j).toInt ∧ (M.1 k j).toInt ≤ (scAt (inv k) j).2) ∧ scJ inv M.1
def scIn (W : List (Nat × Nat × Nat)) (k j : Nat) : Bool := W.any (fun w => w.1 == k && Nat.ble w.2.1 j && Nat.blt j (w.2.1 + w.2.2))
/-- nothing but what W names has changed -/
def scFr (W : List (Nat × Nat × Nat)) (M0 M : fmM) : Prop := ∀ k j : Nat, scIn W k j = false → M.1 k j = M0.1 k j ∧ M.2 k j = M0.2 k j
/-- an abstract state holds of a machine's state -/
def scOf (T : fmT) (inv : Nat → List scI) (W : List (Nat × Nat × Nat)) (M0 : fmM) (s : scS) (σ : List Int) (L : List (Option Value)) (st : List Value) (M : fmM) : Prop := scEk s.1 σ ∧ scLk σ s.2.1 L ∧ scSk σ s.2.2.1 st ∧ scFk σ s.2.2.2 M ∧ scInv T inv M ∧ scFr W M0 M
theorem scEv.mono {σ τ : List Int} {a : scA} {x : Int} (h : scEv σ a x) : scEv (σ ++ τ) a x := by
  obtain ⟨o, c⟩ := a
  cases o with
  | none => exact h
  | some i =>
    obtain ⟨v, hv, e⟩ := h
    refine ⟨v, ?_, e⟩
    rw [List.getElem?_append_left (List.getElem?_eq_some_iff.mp hv).1]
    exact hv
theorem scVk.mono {σ τ : List Int} {v : scV} {w : Value} (h : scVk σ v w) : scVk (σ ++ τ) v w := by
  match v, h with
  | .inl a, ⟨n, e, h⟩ => exact ⟨n, e, h.mono⟩
  | .inr (.inl o), h => exact h
  | .inr (.inr (.inl ks)), h => exact h
  | .inr (.inr (.inr i)), h => exact h
theorem scOk.mono {σ τ : List Int} {v : Option scV} {w : Option Value} (h : scOk σ v w) : scOk (σ ++ τ) v w := by
  cases v <;> cases w
  · exact h
  · exact h
  · exact h
  · exact scVk.mono h
theorem scLk.mono {σ τ : List Int} {Λ : List (Option scV)} {L : List (Option Value)} (h : scLk σ Λ L) : scLk (σ ++ τ) Λ L := ⟨h.1, fun i => (h.2 i).mono⟩
theorem scSk.mono {σ τ : List Int} : ∀ {S : List scV} {st : List Value}, scSk σ S st → scSk (σ ++ τ) S st
  | [], [], _ => trivial
  | _ :: _, _ :: _, h => ⟨h.1.mono, scSk.mono h.2⟩
  | [], _ :: _, h => h.elim
  | _ :: _, [], h => h.elim
theorem scFk.mono {σ τ : List Int} {F : List scF} {M : fmM} (h : scFk σ F M) : scFk (σ ++ τ) F M := fun f hf => (h f hf).mono
theorem scEk.push {env : List scI} {σ : List Int} {e : scI} {x : Int} (h : scEk env σ) (h1 : e.1 ≤ x) (h2 : x ≤ e.2) : scEk (env ++ [e]) (σ ++ [x]) := by
  refine ⟨by simp [h.1], fun i e' x' he hx => ?_⟩
  by_cases hi : i < env.length
  · rw [List.getElem?_append_left hi] at he
    rw [List.getElem?_append_left (by rw [← h.1]; exact hi)] at hx
    exact h.2 i e' x' he hx
  · by_cases hi2 : i = env.length
    · subst hi2
      rw [List.getElem?_append_right (Nat.le_refl _)] at he
      rw [List.getElem?_append_right (by rw [h.1]; exact Nat.le_refl _)] at hx
      simp at he
      rw [h.1] at hx
      simp at hx
      subst he
      subst hx
      exact ⟨h1, h2⟩
    · rw [List.getElem?_eq_none (by simp; omega)] at he
      cases he
theorem scEv.new {env : List scI} {σ : List Int} {x : Int} (h : scEk env σ) : scEv (σ ++ [x]) (some env.length, 0) x := by
  refine ⟨x, ?_, by simp⟩
  rw [h.1]; simp
theorem scEv.iv {env : List scI} {σ : List Int} {a : scA} {x : Int} (h : scEk env σ) (ha : scEv σ a x) : (scIv env a).1 ≤ x ∧ x ≤ (scIv env a).2 := by
  obtain ⟨o, c⟩ := a
  cases o with
  | none => exact ⟨Int.le_of_eq (Eq.symm ha), Int.le_of_eq ha⟩
  | some i =>
    obtain ⟨v, hv, e⟩ := ha
    have hi : i < env.length := by rw [h.1]; exact (List.getElem?_eq_some_iff.mp hv).1
    have := h.2 i env[i] v (List.getElem?_eq_getElem hi) hv
    simp only [scIv, List.getD, List.getElem?_eq_getElem hi, Option.getD_some]
    simp only at e
    omega
theorem scEv.det {σ : List Int} {a : scA} {x z : Int} (h : scEv σ a x) (h2 : scEv σ a z) : x = z := by
  obtain ⟨o, c⟩ := a
  cases o with
  | none => exact (show x = c from h).trans (show z = c from h2).symm
  | some i =>
    obtain ⟨v, hv, e⟩ := h
    obtain ⟨w, hw, e2⟩ := h2
    rw [hv] at hw
    cases hw
    omega
end
-- P 10gb
section
-- THE CHECKER: numbers
abbrev scR : Type := scA × List scI
def scNew (env : List scI) (e : scI) : scR := ((some env.length, 0), env ++ [e])
def scFit (e : scI) : Bool := decide (-2147483648 ≤ e.1) && decide (e.2 ≤ 2147483647)
/-- the outcome r of a number's making is right: for some more unknowns it is x -/
def scNk (env : List scI) (σ : List Int) (r : scR) (x : Int) : Prop := ∃ τ : List Int, scEk r.2 (σ ++ τ) ∧ scEv (σ ++ τ) r.1 x
theorem scNk.new {env : List scI} {σ : List Int} {e : scI} {x : Int} (h : scEk env σ) (h1 : e.1 ≤ x) (h2 : x ≤ e.2) : scNk env σ (scNew env e) x := ⟨[x], h.push h1 h2, scEv.new h⟩
theorem scNk.same {env : List scI} {σ : List Int} {a : scA} {x : Int} (h : scEk env σ) (ha : scEv σ a x) : scNk env σ (a, env) x := ⟨[], by simpa using h, by simpa using ha⟩
theorem scNk.top {env : List scI} {σ : List Int} (x : Int32) (h : scEk env σ) : scNk env σ (scNew env scTop) x.toInt := scNk.new h (by have := x.le_toInt; show -2147483648 ≤ x.toInt; omega) (by have := x.toInt_lt; show x.toInt ≤ 2147483647; omega)
def scAdd (env : List scI) (a b : scA) : scR :=
  if scFit ((scIv env a).1 + (scIv env b).1, (scIv env a).2 + (scIv env b).2) then
    match a.1, b.1 with
    | none, o => ((o, a.2 + b.2), env)
    | some i, none => ((some i, a.2 + b.2), env)
    | some _, some _ => scNew env ((scIv env a).1 + (scIv env b).1, (scIv env a).2 + (scIv env b).2)
  else scNew env scTop
def scSubt (env : List scI) (a b : scA) : scR :=
  if scFit ((scIv env a).1 - (scIv env b).2, (scIv env a).2 - (scIv env b).1) then
    match b.1 with
    | none => ((a.1, a.2 - b.2), env)
    | some _ => scNew env ((scIv env a).1 - (scIv env b).2, (scIv env a).2 - (scIv env b).1)
  else scNew env scTop
def scMul (env : List scI) (a b : scA) : scR :=
  if decide (0 ≤ (scIv env a).1) && decide (0 ≤ (scIv env b).1) && decide ((scIv env a).2 * (scIv env b).2 ≤ 2147483647) then scNew env ((scIv env a).1 * (scIv env b).1, (scIv env a).2 * (scIv env b).2)
  else scNew env scTop
/-- a divisor that is above 0 -/
def scDiv (env : List scI) (a : scA) : scR := scNew env (if (scIv env a).1 ≤ 0 then (scIv env a).1 else 0, if 0 ≤ (scIv env a).2 then (scIv env a).2 else 0)
theorem sc_fit {e : scI} (h : scFit e = true) : -2147483648 ≤ e.1 ∧ e.2 ≤ 2147483647 := by
  simp only [scFit, Bool.and_eq_true, decide_eq_true_eq] at h
  exact h
theorem sc_add {x z : Int32} (h1 : -2147483648 ≤ x.toInt + z.toInt) (h2 : x.toInt + z.toInt ≤ 2147483647) : (x + z).toInt = x.toInt + z.toInt := by
  rw [Int32.toInt_add]
  exact Int.bmod_eq_of_le (by omega) (by omega)
theorem sc_sub {x z : Int32} (h1 : -2147483648 ≤ x.toInt - z.toInt) (h2 : x.toInt - z.toInt ≤ 2147483647) : (x - z).toInt = x.toInt - z.toInt := by
  rw [Int32.toInt_sub]
  exact Int.bmod_eq_of_le (by omega) (by omega)
theorem sc_mul {x z : Int32} (h1 : -2147483648 ≤ x.toInt * z.toInt) (h2 : x.toInt * z.toInt ≤ 2147483647) : (x * z).toInt = x.toInt * z.toInt := by
  rw [Int32.toInt_mul]
  exact Int.bmod_eq_of_le (by omega) (by omega)
theorem scAdd_ok {env : List scI} {σ : List Int} {a b : scA} {x z : Int32} (h : scEk env σ) (ha : scEv σ a x.toInt) (hb : scEv σ b z.toInt) : scNk env σ (scAdd env a b) (x + z).toInt := by
  unfold scAdd
  split
  · rename_i hf
    have hf := sc_fit hf
    have ia := ha.iv h
    have ib := hb.iv h
    simp only at hf
    have e : (x + z).toInt = x.toInt + z.toInt := sc_add (by omega) (by omega)
    rw [e]
    obtain ⟨oa, ca⟩ := a
    obtain ⟨ob, cb⟩ := b
    cases oa with
    | none =>
      have ha' : x.toInt = ca := ha
      refine scNk.same h ?_
      cases ob with
      | none =>
        have hb' : z.toInt = cb := hb
        show x.toInt + z.toInt = ca + cb
        omega
      | some i =>
        obtain ⟨v, hv, e2⟩ := hb
        exact ⟨v, hv, by simp only at e2 ⊢; omega⟩
    | some i =>
      cases ob with
      | none =>
        have hb' : z.toInt = cb := hb
        obtain ⟨v, hv, e2⟩ := ha
        exact scNk.same h ⟨v, hv, by simp only at e2 ⊢; omega⟩
      | some j => exact scNk.new h (by show _ ≤ _; simp only; omega) (by show _ ≤ _; simp only; omega)
  · exact scNk.top _ h
theorem scSubt_ok {env : List scI} {σ : List Int} {a b : scA} {x z : Int32} (h : scEk env σ) (ha : scEv σ a x.toInt) (hb : scEv σ b z.toInt) : scNk env σ (scSubt env a b) (x - z).toInt := by
  unfold scSubt
  split
  · rename_i hf
    have hf := sc_fit hf
    have ia := ha.iv h
    have ib := hb.iv h
    simp only at hf
    have e : (x - z).toInt = x.toInt - z.toInt := sc_sub (by omega) (by omega)
    rw [e]
    obtain ⟨oa, ca⟩ := a
    obtain ⟨ob, cb⟩ := b
    cases ob with
    | none =>
      have hb' : z.toInt = cb := hb
      refine scNk.same h ?_
      cases oa with
      | none =>
        have ha' : x.toInt = ca := ha
        show x.toInt - z.toInt = ca - cb
        omega
      | some i =>
        obtain ⟨v, hv, e2⟩ := ha
        exact ⟨v, hv, by simp only at e2 ⊢; omega⟩
    | some j => exact scNk.new h (by show _ ≤ _; simp only; omega) (by show _ ≤ _; simp only; omega)
  · exact scNk.top _ h
theorem scMul_ok {env : List scI} {σ : List Int} {a b : scA} {x z : Int32} (h : scEk env σ) (ha : scEv σ a x.toInt) (hb : scEv σ b z.toInt) : scNk env σ (scMul env a b) (x * z).toInt := by
  unfold scMul
  split
  · rename_i hf
    simp only [Bool.and_eq_true, decide_eq_true_eq] at hf
    obtain ⟨⟨h1, h2⟩, h3⟩ := hf
    have ia := ha.iv h
    have ib := hb.iv h
    have l1 : (scIv env a).1 * (scIv env b).1 ≤ x.toInt * z.toInt := Int.mul_le_mul ia.1 ib.1 h2 (by omega)
    have l2 : x.toInt * z.toInt ≤ (scIv env a).2 * (scIv env b).2 := Int.mul_le_mul ia.2 ib.2 (by omega) (by omega)
    have l0 : 0 ≤ (scIv env a).1 * (scIv env b).1 := Int.mul_nonneg h1 h2
    have e : (x * z).toInt = x.toInt * z.toInt := sc_mul (by omega) (by omega)
    rw [e]
    exact scNk.new h l1 l2
  · exact scNk.top _ h
theorem sc_tdiv {x z : Int} (hz : 0 < z) : (0 ≤ x → 0 ≤ x.tdiv z ∧ x.tdiv z ≤ x) ∧ (x ≤ 0 → x ≤ x.tdiv z ∧ x.tdiv z ≤ 0) := by
  have key : ∀ w : Int, 0 ≤ w → 0 ≤ w.tdiv z ∧ w.tdiv z ≤ w := by
    intro w hw
    refine ⟨Int.tdiv_nonneg hw (Int.le_of_lt hz), ?_⟩
    rw [Int.tdiv_eq_ediv_of_nonneg hw]
    exact Int.ediv_le_self _ hw
  refine ⟨key x, fun hx => ?_⟩
  have h := key (-x) (by omega)
  rw [Int.neg_tdiv] at h
  omega
theorem scDiv_ok {env : List scI} {σ : List Int} {a b : scA} {x z : Int32} (h : scEk env σ) (ha : scEv σ a x.toInt) (hb : scEv σ b z.toInt) (hp : 0 < (scIv env b).1) : scNk env σ (scDiv env a) (x / z).toInt := by
  have ia := ha.iv h
  have ib := hb.iv h
  have hz : 0 < z.toInt := by omega
  have q := sc_tdiv (x := x.toInt) hz
  have r1 := x.le_toInt
  have r2 := x.toInt_lt
  have e : (x / z).toInt = x.toInt.tdiv z.toInt := by
    rw [Int32.toInt_div]
    rcases Int.le_total 0 x.toInt with h0 | h0
    · have := q.1 h0
      exact Int.bmod_eq_of_le (by omega) (by omega)
    · have := q.2 h0
      exact Int.bmod_eq_of_le (by omega) (by omega)
  rw [e]
  unfold scDiv
  rcases Int.le_total 0 x.toInt with h0 | h0
  · have := q.1 h0
    refine scNk.new h ?_ ?_
    · show (if _ then _ else _) ≤ _
      split <;> omega
    · show _ ≤ (if _ then _ else _)
      split <;> omega
  · have := q.2 h0
    refine scNk.new h ?_ ?_
    · show (if _ then _ else _) ≤ _
      split <;> omega
    · show _ ≤ (if _ then _ else _)
      split <;> omega
theorem sc_nz {env : List scI} {σ : List Int} {b : scA} {z : Int32} (h : scEk env σ) (hb : scEv σ b z.toInt) (hp : 0 < (scIv env b).1) : ¬ z = 0 := by
  have ib := hb.iv h
  intro e
  rw [e] at ib
  have : (0 : Int32).toInt = 0 := by decide
  omega
/-- what is masked by a number that isn't below 0 -/
def scAnd (env : List scI) (a b : scA) : scR := if decide (0 ≤ (scIv env b).1) then scNew env (0, (scIv env b).2) else if decide (0 ≤ (scIv env a).1) then scNew env (0, (scIv env a).2) else scNew env scTop
theorem scq_and {x z : Int32} (h : 0 ≤ z.toInt) : 0 ≤ (x &&& z).toInt ∧ (x &&& z).toInt ≤ z.toInt := by
  have hz : z.toInt = (z.toBitVec.toNat : Int) := by
    show z.toBitVec.toInt = _
    have h' : 0 ≤ z.toBitVec.toInt := h
    have := z.toBitVec.isLt
    rw [BitVec.toInt_eq_toNat_cond] at h' ⊢
    split <;> rename_i hc <;> simp only [hc, if_true, if_false] at h' ⊢ <;> omega
  have hl : z.toInt < 2 ^ 31 := z.toInt_lt
  have e : (x &&& z).toBitVec.toNat = x.toBitVec.toNat &&& z.toBitVec.toNat := by rw [Int32.toBitVec_and, BitVec.toNat_and]
  have e2 : (x &&& z).toBitVec.toNat ≤ z.toBitVec.toNat := by rw [e]; exact Nat.and_le_right
  have e3 : (x &&& z).toInt = ((x &&& z).toBitVec.toNat : Int) := by
    show (x &&& z).toBitVec.toInt = _
    rw [BitVec.toInt_eq_toNat_of_lt (by omega)]
  omega
theorem scq_andc (x z : Int32) : x &&& z = z &&& x := by
  apply Int32.toBitVec_inj.mp
  rw [Int32.toBitVec_and, Int32.toBitVec_and, BitVec.and_comm]
theorem scAnd_ok {env : List scI} {σ : List Int} {a b : scA} {x z : Int32} (h : scEk env σ) (ha : scEv σ a x.toInt) (hb : scEv σ b z.toInt) : scNk env σ (scAnd env a b) (x &&& z).toInt := by
  have ia := ha.iv h
  have ib := hb.iv h
  unfold scAnd
  split
  · rename_i hc
    simp only [decide_eq_true_eq] at hc
    have := scq_and (x := x) (z := z) (by omega)
    exact scNk.new h this.1 (by show _ ≤ (scIv env b).2; omega)
  · split
    · rename_i hc
      simp only [decide_eq_true_eq] at hc
      have := scq_and (x := z) (z := x) (by omega)
      rw [scq_andc]
      exact scNk.new h this.1 (by show _ ≤ (scIv env a).2; omega)
    · exact scNk.top _ h
end
-- P 10gc
section
-- THE CHECKER: branches and memory
def scCut (env : List scI) (a : scA) (lo hi : Int) : Option (List scI) := match a.1 with
  | none => if decide (lo ≤ a.2) && decide (a.2 ≤ hi) then some env else none
  | some i =>
    let e := env.getD i scTop
    let r : scI := (if e.1 ≤ lo - a.2 then lo - a.2 else e.1, if hi - a.2 ≤ e.2 then hi - a.2 else e.2)
    if r.1 ≤ r.2 then some (env.set i r) else none
theorem scCut_ok {env : List scI} {σ : List Int} {a : scA} {lo hi x : Int} (h : scEk env σ) (ha : scEv σ a x) (h1 : lo ≤ x) (h2 : x ≤ hi) : ∃ env', scCut env a lo hi = some env' ∧ scEk env' σ := by
  obtain ⟨o, c⟩ := a
  cases o with
  | none =>
    have ha' : x = c := ha
    subst ha'
    refine ⟨env, ?_, h⟩
    simp [scCut, h1, h2]
  | some i =>
    obtain ⟨v, hv, e⟩ := ha
    simp only at e
    have hi' : i < σ.length := (List.getElem?_eq_some_iff.mp hv).1
    have hi2 : i < env.length := by rw [h.1]; exact hi'
    have hb := h.2 i env[i] v (List.getElem?_eq_getElem hi2) hv
    have eg : env.getD i scTop = env[i] := by simp [List.getD, List.getElem?_eq_getElem hi2]
    have l1 : (if env[i].1 ≤ lo - c then lo - c else env[i].1) ≤ v := by split <;> omega
    have l2 : v ≤ (if hi - c ≤ env[i].2 then hi - c else env[i].2) := by split <;> omega
    refine ⟨env.set i (if env[i].1 ≤ lo - c then lo - c else env[i].1, if hi - c ≤ env[i].2 then hi - c else env[i].2), ?_, ?_⟩
    · simp only [scCut, eg]
      rw [if_pos (Int.le_trans l1 l2)]
    · refine ⟨by simp [h.1], fun j e' x' he hx => ?_⟩
      rw [List.getElem?_set] at he
      by_cases hij : i = j
      · subst hij
        simp only [if_true, hi2] at he
        cases he
        rw [hv] at hx
        cases hx
        exact ⟨l1, l2⟩
      · simp only [hij, if_false] at he
        exact h.2 j e' x' he hx
def scCutC (c : scCo) (env : List scI) (a b : scA) : Option (List scI) :=
  let x := scIv env a
  let z := scIv env b
  match c with
  | .eq => (scCut env a z.1 z.2).bind (fun e => scCut e b x.1 x.2)
  | .lt => (scCut env a x.1 (z.2 - 1)).bind (fun e => scCut e b (x.1 + 1) z.2)
  | .le => (scCut env a x.1 z.2).bind (fun e => scCut e b x.1 z.2)
  | .gt => (scCut env a (z.1 + 1) x.2).bind (fun e => scCut e b z.1 (x.2 - 1))
  | .ge => (scCut env a z.1 x.2).bind (fun e => scCut e b z.1 x.2)
  | .ne => if z.1 = z.2 then (if x.1 = z.1 then scCut env a (x.1 + 1) x.2 else if x.2 = z.1 then scCut env a x.1 (x.2 - 1) else some env)
    else if x.1 = x.2 then (if z.1 = x.1 then scCut env b (z.1 + 1) z.2 else if z.2 = x.1 then scCut env b z.1 (z.2 - 1) else some env)
    else some env
theorem scCut_two {env : List scI} {σ : List Int} {a b : scA} {x z l1 h1 l2 h2 : Int} (h : scEk env σ) (ha : scEv σ a x) (hb : scEv σ b z) (p1 : l1 ≤ x) (p2 : x ≤ h1) (p3 : l2 ≤ z) (p4 : z ≤ h2) : ∃ env', (scCut env a l1 h1).bind (fun e => scCut e b l2 h2) = some env' ∧ scEk env' σ := by
  obtain ⟨e1, q1, k1⟩ := scCut_ok h ha p1 p2
  obtain ⟨e2, q2, k2⟩ := scCut_ok k1 hb p3 p4
  exact ⟨e2, by rw [q1]; exact q2, k2⟩
theorem scCutC_ok {c : scCo} {env : List scI} {σ : List Int} {a b : scA} {x z : Int} (h : scEk env σ) (ha : scEv σ a x) (hb : scEv σ b z) (hr : scRel c x z) : ∃ env', scCutC c env a b = some env' ∧ scEk env' σ := by
  have ia := ha.iv h
  have ib := hb.iv h
  cases c with
  | eq =>
    have hr' : x = z := hr
    exact scCut_two h ha hb (by omega) (by omega) (by omega) (by omega)
  | lt =>
    have hr' : x < z := hr
    exact scCut_two h ha hb (by omega) (by omega) (by omega) (by omega)
  | le =>
    have hr' : x ≤ z := hr
    exact scCut_two h ha hb (by omega) (by omega) (by omega) (by omega)
  | gt =>
    have hr' : z < x := hr
    exact scCut_two h ha hb (by omega) (by omega) (by omega) (by omega)
  | ge =>
    have hr' : z ≤ x := hr
    exact scCut_two h ha hb (by omega) (by omega) (by omega) (by omega)
  | ne =>
    have hr' : ¬ x = z := hr
    simp only [scCutC]
    split
    · split
      · exact scCut_ok h ha (by omega) (by omega)
      · split
        · exact scCut_ok h ha (by omega) (by omega)
        · exact ⟨env, rfl, h⟩
    · split
      · split
        · exact scCut_ok h hb (by omega) (by omega)
        · split
          · exact scCut_ok h hb (by omega) (by omega)
          · exact ⟨env, rfl, h⟩
      · exact ⟨env, rfl, h⟩
/-- what stands at one place -/
def scRead (inv : Nat → List scI) (env : List scI) (F : List scF) (k j : Nat) : scR × List scF := match F.find? (fun f => f.1.1 == k && f.1.2 == j) with
  | some f => ((f.2, env), F)
  | none => (scNew env (scAt (inv k) j), ((k, j), (some env.length, 0)) :: F)
theorem scRead_ok {T : fmT} {inv : Nat → List scI} {env : List scI} {σ : List Int} {F : List scF} {k j : Nat} {M : fmM} (h : scEk env σ) (hF : scFk σ F M) (hI : scInv T inv M) (hj : j < T.2.2.1 k) : ∃ τ : List Int, scEk (scRead inv env F k j).1.2 (σ ++ τ) ∧ scEv (σ ++ τ) (scRead inv env F k j).1.1 (M.1 k j).toInt ∧ scFk (σ ++ τ) (scRead inv env F k j).2 M := by
  unfold scRead
  split
  · rename_i f hf
    have h1 := List.find?_some hf
    have h2 := List.mem_of_find?_eq_some hf
    simp only [Bool.and_eq_true, beq_iff_eq] at h1
    refine ⟨[], by simpa using h, ?_, by simpa using hF⟩
    have := hF f h2
    rw [h1.1, h1.2] at this
    simpa using this
  · have hb := hI.1 k j hj
    refine ⟨[(M.1 k j).toInt], h.push hb.1 hb.2, scEv.new h, fun f hf => ?_⟩
    rcases List.mem_cons.mp hf with e | hf
    · subst e
      exact scEv.new h
    · exact (hF f hf).mono
theorem scJoin_l {a b : scI} {x : Int} (h : a.1 ≤ x ∧ x ≤ a.2) : (scJoin a b).1 ≤ x ∧ x ≤ (scJoin a b).2 := by
  unfold scJoin
  constructor
  · show (if _ then _ else _) ≤ _
    split <;> omega
  · show _ ≤ (if _ then _ else _)
    split <;> omega
theorem scJoin_r {a b : scI} {x : Int} (h : b.1 ≤ x ∧ x ≤ b.2) : (scJoin a b).1 ≤ x ∧ x ≤ (scJoin a b).2 := by
  unfold scJoin
  constructor
  · show (if _ then _ else _) ≤ _
    split <;> omega
  · show _ ≤ (if _ then _ else _)
    split <;> omega
theorem scRg_ok {l : List scI} {a n j : Nat} {x : Int} (h1 : a ≤ j) (h2 : j ≤ a + n) (h : (scAt l j).1 ≤ x ∧ x ≤ (scAt l j).2) : (scRg l a n).1 ≤ x ∧ x ≤ (scRg l a n).2 := by
  unfold scRg
  split
  · exact h
  · rename_i l' hne
    have h' : (l.getD j scTop).1 ≤ x ∧ x ≤ (l.getD j scTop).2 := by
      unfold scAt at h
      split at h
      · rename_i e
        exact absurd rfl (hne e)
      · exact h
    clear h hne
    induction n with
    | zero =>
      have : j = a := by omega
      subst this
      exact h'
    | succ n ih =>
      show (scJoin _ _).1 ≤ x ∧ x ≤ (scJoin _ _).2
      by_cases hj : j ≤ a + n
      · exact scJoin_l (ih hj)
      · have : j = a + n + 1 := by omega
        subst this
        exact scJoin_r h'
def scRgs (inv : Nat → List scI) (a n : Nat) : List Nat → scI
  | [] => scTop
  | k :: ks => match ks with
    | [] => scRg (inv k) a n
    | _ :: _ => scJoin (scRg (inv k) a n) (scRgs inv a n ks)
theorem scRgs_ok {T : fmT} {inv : Nat → List scI} {a n j k : Nat} {M : fmM} (hI : scInv T inv M) (hj : j < T.2.2.1 k) (h1 : a ≤ j) (h2 : j ≤ a + n) : ∀ {ks : List Nat}, k ∈ ks → (scRgs inv a n ks).1 ≤ (M.1 k j).toInt ∧ (M.1 k j).toInt ≤ (scRgs inv a n ks).2
  | [q], hk => by
    have : k = q := by simpa using hk
    subst this
    exact scRg_ok h1 h2 (hI.1 k j hj)
  | q :: r :: ks, hk => by
    show (scJoin _ _).1 ≤ _ ∧ _ ≤ (scJoin _ _).2
    rcases List.mem_cons.mp hk with e | hk
    · subst e
      exact scJoin_l (scRg_ok h1 h2 (hI.1 k j hj))
    · exact scJoin_r (scRgs_ok hI hj h1 h2 hk)
/-- W lets places a to a + n of cell k be written -/
def scWin (W : List (Nat × Nat × Nat)) (k a n : Nat) : Bool := W.any (fun w => w.1 == k && Nat.ble w.2.1 a && Nat.blt (a + n) (w.2.1 + w.2.2))
theorem scWin_in {W : List (Nat × Nat × Nat)} {k a n j : Nat} (h : scWin W k a n = true) (h1 : a ≤ j) (h2 : j ≤ a + n) : scIn W k j = true := by
  obtain ⟨w, hw, h⟩ := List.any_eq_true.mp h
  refine List.any_eq_true.mpr ⟨w, hw, ?_⟩
  simp only [Bool.and_eq_true, beq_iff_eq, Nat.ble_eq, Nat.blt_eq] at h ⊢
  omega
/-- bounds e are within those of places a to a + n -/
def scInto (e : scI) (l : List scI) (a n : Nat) : Bool := match l with
  | [e'] => scSub e e'
  | l => Nat.rec (motive := fun _ => Bool) (scSub e (l.getD a scTop)) (fun q r => r && scSub e (l.getD (a + q + 1) scTop)) n
theorem scSub_ok {e e' : scI} {x : Int} (h : scSub e e' = true) (hx : e.1 ≤ x ∧ x ≤ e.2) : e'.1 ≤ x ∧ x ≤ e'.2 := by
  simp only [scSub, Bool.and_eq_true, decide_eq_true_eq] at h
  omega
theorem scInto_ok {e : scI} {l : List scI} {a n j : Nat} {x : Int} (h : scInto e l a n = true) (h1 : a ≤ j) (h2 : j ≤ a + n) (hx : e.1 ≤ x ∧ x ≤ e.2) : (scAt l j).1 ≤ x ∧ x ≤ (scAt l j).2 := by
  unfold scInto at h
  split at h
  · exact scSub_ok h hx
  · rename_i l' hne
    have hl : scAt l j = l.getD j scTop := by
      unfold scAt
      split
      · rename_i e
        exact absurd rfl (hne e)
      · rfl
    rw [hl]
    clear hl hne
    induction n with
    | zero =>
      have : j = a := by omega
      subst this
      exact scSub_ok h hx
    | succ n ih =>
      have h' : (Nat.rec (motive := fun _ => Bool) (scSub e (l.getD a scTop)) (fun q r => r && scSub e (l.getD (a + q + 1) scTop)) n && scSub e (l.getD (a + n + 1) scTop)) = true := h
      rw [Bool.and_eq_true] at h'
      by_cases hj : j ≤ a + n
      · exact ih hj h'.1
      · have : j = a + n + 1 := by omega
        subst this
        exact scSub_ok h'.2 hx
def scWr (inv : Nat → List scI) (W : List (Nat × Nat × Nat)) (ks : List Nat) (a n : Nat) (e : scI) : Bool := ks.all (fun k => scWin W k a n && scInto e (inv k) a n && scFree inv k a n)
def scKl (F : List scF) (ks : List Nat) (a n : Nat) : List scF := F.filter (fun f => !(ks.contains f.1.1 && Nat.ble a f.1.2 && Nat.ble f.1.2 (a + n)))
theorem scFr.toI {W : List (Nat × Nat × Nat)} {M0 M : fmM} {k j : Nat} {v : Int32} (h : scFr W M0 M) (hw : scIn W k j = true) : scFr W M0 (fmI M k j v) := by
  intro k' j' hn
  have := h k' j' hn
  refine ⟨?_, this.2⟩
  rw [← this.1]
  by_cases e : k' = k
  · subst e
    by_cases e2 : j' = j
    · subst e2
      rw [hw] at hn
      cases hn
    · exact fmI_j M v e2
  · rw [fmI_k M v e]
theorem scFr.toJ {W : List (Nat × Nat × Nat)} {M0 M : fmM} {k j : Nat} {v : Int64} (h : scFr W M0 M) (hw : scIn W k j = true) : scFr W M0 (fmJ M k j v) := by
  intro k' j' hn
  have := h k' j' hn
  refine ⟨this.1, ?_⟩
  rw [← this.2]
  by_cases e : k' = k
  · subst e
    by_cases e2 : j' = j
    · subst e2
      rw [hw] at hn
      cases hn
    · exact fmJ_j M v e2
  · rw [fmJ_k M v e]
theorem scWr_ok {T : fmT} {inv : Nat → List scI} {W : List (Nat × Nat × Nat)} {ks : List Nat} {a n k j : Nat} {e : scI} {M0 M : fmM} {v : Int32} (h : scWr inv W ks a n e = true) (hk : k ∈ ks) (h1 : a ≤ j) (h2 : j ≤ a + n) (hv : e.1 ≤ v.toInt ∧ v.toInt ≤ e.2) (hI : scInv T inv M) (hW : scFr W M0 M) : scInv T inv (fmI M k j v) ∧ scFr W M0 (fmI M k j v) := by
  have h := List.all_eq_true.mp h k hk
  rw [Bool.and_eq_true, Bool.and_eq_true] at h
  refine ⟨⟨fun k' j' hj' => ?_, ?_⟩, hW.toI (scWin_in h.1.1 h1 h2)⟩
  · by_cases e1 : k' = k
    · subst e1
      by_cases e2 : j' = j
      · subst e2
        rw [fmI_s]
        exact scInto_ok h.1.2 h1 h2 hv
      · rw [fmI_j M v e2]
        exact hI.1 k' j' hj'
    · rw [fmI_k M v e1]
      exact hI.1 k' j' hj'
  · refine scFree_ok h.2 hI.2 (fun k' j' hn => ?_)
    by_cases e1 : k' = k
    · subst e1
      exact fmI_j M v (fun e2 => hn ⟨rfl, by omega, by omega⟩)
    · rw [fmI_k M v e1]
theorem scKl_ok {F : List scF} {ks : List Nat} {a n k j : Nat} {σ : List Int} {M : fmM} {v : Int32} (hk : k ∈ ks) (h1 : a ≤ j) (h2 : j ≤ a + n) (hF : scFk σ F M) : scFk σ (scKl F ks a n) (fmI M k j v) := by
  intro f hf
  obtain ⟨hf, hn⟩ := List.mem_filter.mp hf
  have := hF f hf
  by_cases e1 : f.1.1 = k
  · by_cases e2 : f.1.2 = j
    · exfalso
      have : (ks.contains f.1.1 && Nat.ble a f.1.2 && Nat.ble f.1.2 (a + n)) = true := by
        rw [e1, e2]
        simp only [Bool.and_eq_true, Nat.ble_eq, List.contains_iff_mem]
        exact ⟨⟨hk, h1⟩, h2⟩
      rw [this] at hn
      cases hn
    · rw [e1] at this ⊢
      rw [fmI_j M v e2]
      exact this
  · rw [fmI_k M v e1]
    exact this
end
-- P 10gd
section
-- THE CHECKER: one state within another
abbrev scB : Type := List (Option scA)
def scM1 (env : List scI) (p a : scA) (B : scB) : Option scB := match p.1 with
  | none => if decide ((scIv env a).1 = p.2) && decide ((scIv env a).2 = p.2) then some B else none
  | some n => match B[n]? with
    | some none => some (B.set n (some (a.1, a.2 - p.2)))
    | some (some b) => if b = (a.1, a.2 - p.2) then some B else none
    | none => none
def scMv (env : List scI) (p a : scV) (B : scB) : Option scB := match p with
  | .inl p => match a with
    | .inl a => scM1 env p a B
    | .inr _ => none
  | .inr (.inl o) => match a with
    | .inr (.inl o') => if scSub o' o then some B else none
    | _ => none
  | .inr (.inr (.inl ks)) => match a with
    | .inr (.inr (.inl ks')) => if ks'.all (fun k => ks.contains k) then some B else none
    | _ => none
  | .inr (.inr (.inr i)) => match a with
    | .inr (.inr (.inr i')) => if i = i' then some B else none
    | _ => none
/-- what is bound stays bound -/
def scBl (B B' : scB) : Prop := ∀ (n : Nat) (b : scA), B[n]? = some (some b) → B'[n]? = some (some b)
/-- what is bound has a value -/
def scBg (σ : List Int) (B : scB) : Prop := ∀ (n : Nat) (b : scA), B[n]? = some (some b) → ∃ x, scEv σ b x
/-- the unknowns of the pattern are what they are bound to -/
def scBk (σ : List Int) (B : scB) (ρ : List Int) : Prop := ∀ (n : Nat) (b : scA), B[n]? = some (some b) → ∃ x, ρ[n]? = some x ∧ scEv σ b x
theorem scBl.refl (B : scB) : scBl B B := fun _ _ h => h
theorem scBl.trans {B B' B'' : scB} (h : scBl B B') (h' : scBl B' B'') : scBl B B'' := fun n b q => h' n b (h n b q)
theorem scM1_ok {env : List scI} {σ : List Int} {p a : scA} {B B' : scB} {x : Int} (h : scEk env σ) (ha : scEv σ a x) (hB : scBg σ B) (hm : scM1 env p a B = some B') : scBl B B' ∧ scBg σ B' ∧ ∀ (Bf : scB) (ρ : List Int), scBl B' Bf → scBk σ Bf ρ → scEv ρ p x := by
  obtain ⟨o, c⟩ := p
  cases o with
  | none =>
    simp only [scM1] at hm
    split at hm
    · rename_i hc
      simp only [Bool.and_eq_true, decide_eq_true_eq] at hc
      cases hm
      refine ⟨scBl.refl _, hB, fun Bf ρ _ _ => ?_⟩
      have := ha.iv h
      show x = c
      omega
    · cases hm
  | some n =>
    have hshift : ∀ (ρ : List Int) (y : Int), ρ[n]? = some y → scEv σ (a.1, a.2 - c) y → scEv ρ (some n, c) x := by
      intro ρ y hy he
      refine ⟨y, hy, ?_⟩
      show x = y + c
      obtain ⟨oa, ca⟩ := a
      cases oa with
      | none =>
        have e1 : x = ca := ha
        have e2 : y = ca - c := he
        omega
      | some i =>
        obtain ⟨v, hv, e1⟩ := ha
        obtain ⟨w, hw, e2⟩ := he
        rw [hv] at hw
        cases hw
        simp only at e1 e2
        omega
    have hval : ∃ y, scEv σ (a.1, a.2 - c) y := by
      obtain ⟨oa, ca⟩ := a
      cases oa with
      | none => exact ⟨ca - c, rfl⟩
      | some i =>
        obtain ⟨v, hv, e1⟩ := ha
        exact ⟨v + (ca - c), v, hv, rfl⟩
    simp only [scM1] at hm
    split at hm
    · rename_i hn
      cases hm
      have hlt : n < B.length := (List.getElem?_eq_some_iff.mp hn).1
      refine ⟨fun q b hq => ?_, fun q b hq => ?_, fun Bf ρ hl hk => ?_⟩
      · rw [List.getElem?_set]
        by_cases e : n = q
        · subst e
          rw [hn] at hq
          cases hq
        · simp only [e, if_false]
          exact hq
      · rw [List.getElem?_set] at hq
        by_cases e : n = q
        · subst e
          simp only [if_true, hlt] at hq
          cases hq
          exact hval
        · simp only [e, if_false] at hq
          exact hB q b hq
      · have h1 : (B.set n (some (a.1, a.2 - c)))[n]? = some (some (a.1, a.2 - c)) := by simp [hlt]
        obtain ⟨y, hy, he⟩ := hk n _ (hl n _ h1)
        exact hshift ρ y hy he
    · rename_i b hn
      split at hm
      · rename_i hb
        cases hm
        refine ⟨scBl.refl _, hB, fun Bf ρ hl hk => ?_⟩
        obtain ⟨y, hy, he⟩ := hk n _ (hl n _ hn)
        rw [hb] at he
        exact hshift ρ y hy he
      · cases hm
    · cases hm
theorem scMv_ok {env : List scI} {σ : List Int} {p a : scV} {B B' : scB} {w : Value} (h : scEk env σ) (ha : scVk σ a w) (hB : scBg σ B) (hm : scMv env p a B = some B') : scBl B B' ∧ scBg σ B' ∧ ∀ (Bf : scB) (ρ : List Int), scBl B' Bf → scBk σ Bf ρ → scVk ρ p w := by
  match p, a, ha, hm with
  | .inl p, .inl a, ⟨n, e, ha⟩, hm =>
    obtain ⟨h1, h2, h3⟩ := scM1_ok h ha hB hm
    exact ⟨h1, h2, fun Bf ρ hl hk => ⟨n, e, h3 Bf ρ hl hk⟩⟩
  | .inr (.inl o), .inr (.inl o'), ⟨n, e, ha⟩, hm =>
    simp only [scMv] at hm
    split at hm
    · rename_i ho
      cases hm
      exact ⟨scBl.refl _, hB, fun Bf ρ hl hk => ⟨n, e, scSub_ok ho ha⟩⟩
    · cases hm
  | .inr (.inr (.inl ks)), .inr (.inr (.inl ks')), ⟨k, hk, e⟩, hm =>
    simp only [scMv] at hm
    split at hm
    · rename_i ho
      cases hm
      refine ⟨scBl.refl _, hB, fun Bf ρ hl _ => ⟨k, ?_, e⟩⟩
      exact List.contains_iff_mem.mp (List.all_eq_true.mp ho k hk)
    · cases hm
  | .inr (.inr (.inr i)), .inr (.inr (.inr i')), ha, hm =>
    simp only [scMv] at hm
    split at hm
    · rename_i ho
      cases hm
      refine ⟨scBl.refl _, hB, fun Bf ρ hl _ => ?_⟩
      subst ho
      exact ha
    · cases hm
  | .inl _, .inr _, _, hm => cases hm
  | .inr (.inl _), .inl _, _, hm => cases hm
  | .inr (.inl _), .inr (.inr _), _, hm => cases hm
  | .inr (.inr (.inl _)), .inl _, _, hm => cases hm
  | .inr (.inr (.inl _)), .inr (.inl _), _, hm => cases hm
  | .inr (.inr (.inl _)), .inr (.inr (.inr _)), _, hm => cases hm
  | .inr (.inr (.inr _)), .inl _, _, hm => cases hm
  | .inr (.inr (.inr _)), .inr (.inl _), _, hm => cases hm
  | .inr (.inr (.inr _)), .inr (.inr (.inl _)), _, hm => cases hm
def scMl (env : List scI) : List scV → List scV → scB → Option scB
  | [], [], B => some B
  | p :: ps, a :: as, B => (scMv env p a B).bind (scMl env ps as)
  | _, _, _ => none
theorem scMl_ok {env : List scI} {σ : List Int} (h : scEk env σ) : ∀ {ps as : List scV} {B B' : scB} {st : List Value}, scSk σ as st → scBg σ B → scMl env ps as B = some B' → scBl B B' ∧ scBg σ B' ∧ ∀ (Bf : scB) (ρ : List Int), scBl B' Bf → scBk σ Bf ρ → scSk ρ ps st
  | [], [], B, B', [], _, hB, hm => by
    cases hm
    exact ⟨scBl.refl _, hB, fun _ _ _ _ => trivial⟩
  | p :: ps, a :: as, B, B', w :: st, hs, hB, hm => by
    simp only [scMl] at hm
    obtain ⟨B1, h1, h2⟩ := Option.bind_eq_some_iff.mp hm
    obtain ⟨a1, a2, a3⟩ := scMv_ok h hs.1 hB h1
    obtain ⟨b1, b2, b3⟩ := scMl_ok h hs.2 a2 h2
    exact ⟨a1.trans b1, b2, fun Bf ρ hl hk => ⟨a3 Bf ρ (b1.trans hl) hk, b3 Bf ρ hl hk⟩⟩
  | [], [], _, _, _ :: _, hs, _, _ => hs.elim
  | _ :: _, _ :: _, _, _, [], hs, _, _ => hs.elim
  | [], _ :: _, _, _, _, _, _, hm => by cases hm
  | _ :: _, [], _, _, _, _, _, hm => by cases hm
def scMo (env : List scI) : List (Option scV) → List (Option scV) → scB → Option scB
  | [], [], B => some B
  | none :: ps, _ :: as, B => scMo env ps as B
  | some p :: ps, some a :: as, B => (scMv env p a B).bind (scMo env ps as)
  | _, _, _ => none
theorem scLk.nil {σ : List Int} : scLk σ [] [] := ⟨rfl, fun i => by simp [scOk]⟩
theorem scLk.cons {σ : List Int} {v : Option scV} {w : Option Value} {Λ : List (Option scV)} {L : List (Option Value)} (h : scOk σ v w) (h' : scLk σ Λ L) : scLk σ (v :: Λ) (w :: L) := by
  refine ⟨by simp [h'.1], fun i => ?_⟩
  cases i with
  | zero => simpa using h
  | succ i => simpa using h'.2 i
theorem scLk.tail {σ : List Int} {v : Option scV} {w : Option Value} {Λ : List (Option scV)} {L : List (Option Value)} (h : scLk σ (v :: Λ) (w :: L)) : scOk σ v w ∧ scLk σ Λ L := by
  refine ⟨by simpa using h.2 0, by simpa using h.1, fun i => by simpa using h.2 (i + 1)⟩
theorem scMo_ok {env : List scI} {σ : List Int} (h : scEk env σ) : ∀ {ps as : List (Option scV)} {B B' : scB} {L : List (Option Value)}, scLk σ as L → scBg σ B → scMo env ps as B = some B' → scBl B B' ∧ scBg σ B' ∧ ∀ (Bf : scB) (ρ : List Int), scBl B' Bf → scBk σ Bf ρ → scLk ρ ps L
  | [], [], B, B', [], hL, hB, hm => by
    cases hm
    exact ⟨scBl.refl _, hB, fun _ _ _ _ => scLk.nil⟩
  | none :: ps, a :: as, B, B', w :: L, hL, hB, hm => by
    obtain ⟨b1, b2, b3⟩ := scMo_ok h hL.tail.2 hB hm
    exact ⟨b1, b2, fun Bf ρ hl hk => scLk.cons trivial (b3 Bf ρ hl hk)⟩
  | some p :: ps, some a :: as, B, B', w :: L, hL, hB, hm => by
    simp only [scMo] at hm
    obtain ⟨B1, h1, h2⟩ := Option.bind_eq_some_iff.mp hm
    have ht := hL.tail
    cases w with
    | none => exact ht.1.elim
    | some w =>
      obtain ⟨a1, a2, a3⟩ := scMv_ok (w := w) h ht.1 hB h1
      obtain ⟨b1, b2, b3⟩ := scMo_ok h ht.2 a2 h2
      exact ⟨a1.trans b1, b2, fun Bf ρ hl hk => scLk.cons (v := some p) (w := some w) (a3 Bf ρ (b1.trans hl) hk) (b3 Bf ρ hl hk)⟩
  | [], [], _, _, _ :: _, hL, _, _ => by have := hL.1; simp at this
  | none :: _, _ :: _, _, _, [], hL, _, _ => by have := hL.1; simp at this
  | some _ :: _, some _ :: _, _, _, [], hL, _, _ => by have := hL.1; simp at this
  | [], _ :: _, _, _, _, _, _, hm => by cases hm
  | none :: _, [], _, _, _, _, _, hm => by cases hm
  | some _ :: _, [], _, _, _, _, _, hm => by cases hm
  | some _ :: _, none :: _, _, _, _, _, _, hm => by cases hm
/-- what a pattern knows of memory is read -/
def scLd (T : fmT) (inv : Nat → List scI) : List scF → List scI → List scF → Option (List scI × List scF)
  | [], env, F => some (env, F)
  | f :: fs, env, F => if Nat.blt f.1.2 (T.2.2.1 f.1.1) then scLd T inv fs (scRead inv env F f.1.1 f.1.2).1.2 (scRead inv env F f.1.1 f.1.2).2 else none
theorem scLd_ok {T : fmT} {inv : Nat → List scI} {M : fmM} (hI : scInv T inv M) : ∀ {fs : List scF} {env env' : List scI} {σ : List Int} {F F' : List scF}, scEk env σ → scFk σ F M → scLd T inv fs env F = some (env', F') → ∃ τ : List Int, scEk env' (σ ++ τ) ∧ scFk (σ ++ τ) F' M
  | [], env, env', σ, F, F', h, hF, hl => by
    cases hl
    exact ⟨[], by simpa using h, by simpa using hF⟩
  | f :: fs, env, env', σ, F, F', h, hF, hl => by
    simp only [scLd] at hl
    split at hl
    · rename_i hb
      obtain ⟨τ, h1, h2, h3⟩ := scRead_ok (T := T) (k := f.1.1) (j := f.1.2) h hF hI (by simpa using hb)
      obtain ⟨τ', h4, h5⟩ := scLd_ok hI h1 h3 hl
      exact ⟨τ ++ τ', by rw [← List.append_assoc]; exact h4, by rw [← List.append_assoc]; exact h5⟩
    · cases hl
def scMf (env : List scI) (F : List scF) : List scF → scB → Option scB
  | [], B => some B
  | f :: fs, B => match F.find? (fun g => g.1.1 == f.1.1 && g.1.2 == f.1.2) with
    | some g => (scM1 env f.2 g.2 B).bind (scMf env F fs)
    | none => none
theorem scMf_ok {env : List scI} {σ : List Int} {F : List scF} {M : fmM} (h : scEk env σ) (hF : scFk σ F M) : ∀ {fs : List scF} {B B' : scB}, scBg σ B → scMf env F fs B = some B' → scBl B B' ∧ scBg σ B' ∧ ∀ (Bf : scB) (ρ : List Int), scBl B' Bf → scBk σ Bf ρ → scFk ρ fs M
  | [], B, B', hB, hm => by
    cases hm
    exact ⟨scBl.refl _, hB, fun _ _ _ _ f hf => by cases hf⟩
  | f :: fs, B, B', hB, hm => by
    simp only [scMf] at hm
    split at hm
    · rename_i g hg
      have h1 := List.find?_some hg
      have h2 := hF g (List.mem_of_find?_eq_some hg)
      simp only [Bool.and_eq_true, beq_iff_eq] at h1
      rw [h1.1, h1.2] at h2
      obtain ⟨B1, q1, q2⟩ := Option.bind_eq_some_iff.mp hm
      obtain ⟨a1, a2, a3⟩ := scM1_ok h h2 hB q1
      obtain ⟨b1, b2, b3⟩ := scMf_ok h hF a2 q2
      refine ⟨a1.trans b1, b2, fun Bf ρ hl hk f' hf' => ?_⟩
      rcases List.mem_cons.mp hf' with e | hf'
      · subst e
        exact a3 Bf ρ (b1.trans hl) hk
      · exact b3 Bf ρ hl hk f' hf'
    · cases hm
/-- all is bound, within the pattern's bounds -/
def scBe (env : List scI) : scB → List scI → Bool
  | [], [] => true
  | some b :: B, e :: es => scSub (scIv env b) e && scBe env B es
  | _, _ => false
def scVal (σ : List Int) (b : Option scA) : Int := match b with
  | none => 0
  | some b => match b.1 with
    | none => b.2
    | some i => σ.getD i 0 + b.2
theorem scVal_ok {σ : List Int} {b : scA} {x : Int} (h : scEv σ b x) : scVal σ (some b) = x := by
  obtain ⟨o, c⟩ := b
  cases o with
  | none => exact Eq.symm h
  | some i =>
    obtain ⟨v, hv, e⟩ := h
    simp only [scVal, List.getD, hv, Option.getD_some]
    exact e.symm
theorem scBe_ok {env : List scI} {σ : List Int} (h : scEk env σ) : ∀ {B : scB} {es : List scI}, scBg σ B → scBe env B es = true → scEk es (B.map (scVal σ))
  | [], [], _, _ => ⟨rfl, fun i e x he => by simp at he⟩
  | some b :: B, e :: es, hB, hm => by
    simp only [scBe, Bool.and_eq_true] at hm
    have ih := scBe_ok h (B := B) (es := es) (fun n b' hb => hB (n + 1) b' (by simpa using hb)) hm.2
    obtain ⟨x, hx⟩ := hB 0 b rfl
    refine ⟨by simp [ih.1], fun i e' x' he hx' => ?_⟩
    cases i with
    | zero =>
      simp at he hx'
      subst he
      subst hx'
      rw [scVal_ok hx]
      exact scSub_ok hm.1 (hx.iv h)
    | succ i =>
      simp only [List.getElem?_cons_succ, List.map_cons] at he hx'
      exact ih.2 i e' x' he hx'
  | [], _ :: _, _, hm => by cases hm
  | none :: _, _, _, hm => by simp [scBe] at hm
  | some _ :: _, [], _, hm => by cases hm
theorem scBk.of {σ : List Int} {B : scB} (h : scBg σ B) : scBk σ B (B.map (scVal σ)) := by
  intro n b hb
  obtain ⟨x, hx⟩ := h n b hb
  exact ⟨x, by simp [hb, scVal_ok hx], hx⟩
/-- state s within the pattern p -/
def scInc (T : fmT) (inv : Nat → List scI) (s p : scS) : Option (List scI × List scF × scB) := match scLd T inv p.2.2.2 s.1 s.2.2.2 with
  | none => none
  | some (env, F) => ((scMo env p.2.1 s.2.1 (List.replicate p.1.length none)).bind (fun B => (scMl env p.2.2.1 s.2.2.1 B).bind (fun B => scMf env F p.2.2.2 B))).bind (fun B => if scBe env B p.1 then some (env, F, B) else none)
theorem scInc_ok {T : fmT} {inv : Nat → List scI} {s p : scS} {σ : List Int} {L : List (Option Value)} {st : List Value} {M : fmM} {env : List scI} {F : List scF} {B : scB} (h : scEk s.1 σ) (hL : scLk σ s.2.1 L) (hS : scSk σ s.2.2.1 st) (hF : scFk σ s.2.2.2 M) (hI : scInv T inv M) (hm : scInc T inv s p = some (env, F, B)) :
    ∃ τ : List Int, scEk env (σ ++ τ) ∧ scFk (σ ++ τ) F M ∧ scBg (σ ++ τ) B ∧ scEk p.1 (B.map (scVal (σ ++ τ))) ∧ scLk (B.map (scVal (σ ++ τ))) p.2.1 L ∧ scSk (B.map (scVal (σ ++ τ))) p.2.2.1 st ∧ scFk (B.map (scVal (σ ++ τ))) p.2.2.2 M := by
  unfold scInc at hm
  split at hm
  · cases hm
  · rename_i env1 F1 hl
    obtain ⟨τ, k1, k2⟩ := scLd_ok hI h hF hl
    obtain ⟨B1, q1, q2⟩ := Option.bind_eq_some_iff.mp hm
    split at q2
    · rename_i hbe
      cases q2
      obtain ⟨B2, r1, r2⟩ := Option.bind_eq_some_iff.mp q1
      obtain ⟨B3, r3, r4⟩ := Option.bind_eq_some_iff.mp r2
      have hB0 : scBg (σ ++ τ) (List.replicate p.1.length none) := by
        intro n b hb
        rw [List.getElem?_replicate] at hb
        split at hb <;> cases hb
      obtain ⟨a1, a2, a3⟩ := scMo_ok k1 hL.mono hB0 r1
      obtain ⟨b1, b2, b3⟩ := scMl_ok k1 hS.mono a2 r3
      obtain ⟨c1, c2, c3⟩ := scMf_ok k1 k2 b2 r4
      have hk := scBk.of c2
      exact ⟨τ, k1, k2, c2, scBe_ok k1 c2 hbe, a3 _ _ (b1.trans c1) hk, b3 _ _ c1 hk, c3 _ _ (scBl.refl _) hk⟩
    · cases q2
end
-- P 10ge
section
-- THE CHECKER: ranks
def scDot : List Int → List Int → Int
  | q :: v, x :: σ => q * x + scDot v σ
  | _, _ => 0
def scAddAt : List Int → Nat → Int → List Int
  | [], 0, q => [q]
  | [], i + 1, q => 0 :: scAddAt [] i q
  | x :: v, 0, q => (x + q) :: v
  | x :: v, i + 1, q => x :: scAddAt v i q
theorem scDot_nil (σ : List Int) : scDot [] σ = 0 := by cases σ <;> rfl
theorem scDot_addAt : ∀ (v : List Int) (i : Nat) (q : Int) (σ : List Int), scDot (scAddAt v i q) σ = scDot v σ + q * σ.getD i 0
  | [], 0, q, [] => by simp [scAddAt, scDot]
  | [], 0, q, x :: σ => by simp [scAddAt, scDot, scDot_nil]
  | [], i + 1, q, [] => by simp [scAddAt, scDot]
  | [], i + 1, q, x :: σ => by
    have := scDot_addAt [] i q σ
    rw [scDot_nil] at this
    simp only [scAddAt, scDot, this]
    simp
  | x :: v, 0, q, [] => by simp [scAddAt, scDot]
  | x :: v, 0, q, y :: σ => by
    simp only [scAddAt, scDot, List.getD_cons_zero, Int.add_mul]
    omega
  | x :: v, i + 1, q, [] => by simp [scAddAt, scDot]
  | x :: v, i + 1, q, y :: σ => by
    have := scDot_addAt v i q σ
    simp only [scAddAt, scDot, this, List.getD_cons_succ]
    omega
def scVs : List Int → List Int → List Int
  | [], w => w.map (fun x => -x)
  | v, [] => v
  | a :: v, b :: w => (a - b) :: scVs v w
theorem scDot_neg : ∀ (v σ : List Int), scDot (v.map (fun x => -x)) σ = - scDot v σ
  | [], σ => by simp [scDot_nil]
  | a :: v, [] => by simp [scDot]
  | a :: v, x :: σ => by
    simp only [List.map_cons, scDot, scDot_neg v σ, Int.neg_mul]
    omega
theorem scDot_sub : ∀ (v w σ : List Int), scDot (scVs v w) σ = scDot v σ - scDot w σ
  | [], w, σ => by simp [scVs, scDot_neg, scDot_nil]
  | a :: v, [], σ => by simp [scVs, scDot_nil]
  | a :: v, b :: w, [] => by simp [scVs, scDot]
  | a :: v, b :: w, x :: σ => by
    simp only [scVs, scDot, scDot_sub v w σ, Int.sub_mul]
    omega
def scUb : List scI → List Int → Int
  | e :: env, q :: v => (if 0 ≤ q then q * e.2 else q * e.1) + scUb env v
  | _, _ => 0
theorem scEk.tail {e : scI} {env : List scI} {x : Int} {σ : List Int} (h : scEk (e :: env) (x :: σ)) : (e.1 ≤ x ∧ x ≤ e.2) ∧ scEk env σ := ⟨h.2 0 e x rfl rfl, by simpa using h.1, fun i e' x' he hx => h.2 (i + 1) e' x' (by simpa using he) (by simpa using hx)⟩
theorem scUb_ok : ∀ {env : List scI} {σ v : List Int}, scEk env σ → scDot v σ ≤ scUb env v
  | [], [], v, _ => by cases v <;> simp [scDot, scUb]
  | e :: env, x :: σ, [], _ => by simp [scDot, scUb]
  | e :: env, x :: σ, q :: v, h => by
    have ht := h.tail
    have ih := scUb_ok (v := v) ht.2
    simp only [scDot, scUb]
    split
    · have := Int.mul_le_mul_of_nonneg_left ht.1.2 (by assumption)
      omega
    · have := Int.mul_le_mul_of_nonpos_left (a := q) (by omega) ht.1.1
      omega
  | [], _ :: _, _, h => by have := h.1; simp at this
  | _ :: _, [], _, h => by have := h.1; simp at this
/-- the rank of a pattern, over the unknowns that it is bound to -/
def scRv : List Int → scB → List Int × Int
  | q :: v, b :: B => match b with
    | none => scRv v B
    | some (none, c) => ((scRv v B).1, (scRv v B).2 + q * c)
    | some (some i, c) => (scAddAt (scRv v B).1 i q, (scRv v B).2 + q * c)
  | _, _ => ([], 0)
theorem scRv_ok {σ : List Int} : ∀ {v : List Int} {B : scB}, scDot (scRv v B).1 σ + (scRv v B).2 = scDot v (B.map (scVal σ))
  | [], B => by simp [scRv, scDot_nil]
  | q :: v, [] => by simp [scRv, scDot]
  | q :: v, none :: B => by
    have := scRv_ok (σ := σ) (v := v) (B := B)
    simp only [scRv, List.map_cons, scDot, scVal]
    omega
  | q :: v, some (none, c) :: B => by
    have := scRv_ok (σ := σ) (v := v) (B := B)
    simp only [scRv, List.map_cons, scDot, scVal]
    omega
  | q :: v, some (some i, c) :: B => by
    have := scRv_ok (σ := σ) (v := v) (B := B)
    simp only [scRv, List.map_cons, scDot, scVal, scDot_addAt, Int.mul_add]
    omega
abbrev scK : Type := List Int × Int
def scRank (r : scK) (σ : List Int) : Int := scDot r.1 σ + r.2
/-- the rank r of a pattern bound by B is below r0 -/
def scLess (env : List scI) (r0 : Option scK) (r : scK) (B : scB) : Bool := match r0 with
  | none => true
  | some r0 => decide (scUb env (scVs (scRv r.1 B).1 r0.1) + (scRv r.1 B).2 + r.2 - r0.2 ≤ -1)
theorem scLess_ok {env : List scI} {σ : List Int} {r0 r : scK} {B : scB} (h : scEk env σ) (hl : scLess env (some r0) r B = true) : scRank r (B.map (scVal σ)) < scRank r0 σ := by
  simp only [scLess, decide_eq_true_eq] at hl
  have h1 := scUb_ok (v := scVs (scRv r.1 B).1 r0.1) h
  rw [scDot_sub] at h1
  have h2 := scRv_ok (σ := σ) (v := r.1) (B := B)
  unfold scRank
  omega
theorem scDot_app : ∀ {v ρ : List Int} (τ : List Int), v.length ≤ ρ.length → scDot v (ρ ++ τ) = scDot v ρ
  | [], ρ, τ, _ => by rw [scDot_nil, scDot_nil]
  | q :: v, [], τ, h => by simp at h
  | q :: v, x :: ρ, τ, h => by
    simp only [List.cons_append, scDot]
    rw [scDot_app τ (by simpa using h)]
/-- a rank is never below 0 -/
def scPos (env : List scI) (r : scK) : Bool := decide (scUb env (r.1.map (fun x => -x)) ≤ r.2) && Nat.ble r.1.length env.length
theorem scPos_ok {env : List scI} {σ : List Int} {r : scK} (h : scEk env σ) (hp : scPos env r = true) : 0 ≤ scRank r σ ∧ r.1.length ≤ σ.length := by
  simp only [scPos, Bool.and_eq_true, decide_eq_true_eq, Nat.ble_eq] at hp
  have h1 := scUb_ok (v := r.1.map (fun x => -x)) h
  rw [scDot_neg] at h1
  unfold scRank
  refine ⟨by omega, by rw [← h.1]; exact hp.2⟩
-- CONTRACTS
/-- an end: how (0 nothing, 1 an int, 2 a long, 3 a reference, 4 IllegalArgumentException, 5 NoSuchElementException); the int's bounds; the reference's cells; bounds of unknowns of the start; bounds of memory -/
abbrev scO : Type := Nat × scI × List Nat × List (Nat × scI) × List ((Nat × Nat) × scI)
/-- a contract: method, depth; bounds of unknowns, arguments, what memory must be; its ends; what it may write -/
abbrev scC : Type := fmY × Nat × List scI × List scV × List scF × List scO × List (Nat × Nat × Nat)
def scRk (o : scO) (r : fmR) : Prop := match o.1 with
  | 0 => r = .inl none
  | 1 => ∃ n : Int32, r = .inl (some (.int n)) ∧ o.2.1.1 ≤ n.toInt ∧ n.toInt ≤ o.2.1.2
  | 2 => ∃ n : Int64, r = .inl (some (.long n)) ∧ o.2.1.1 ≤ n.toInt ∧ n.toInt ≤ o.2.1.2
  | 3 => ∃ k, k ∈ o.2.2.1 ∧ r = .inl (some (.ref k))
  | 4 => r = .inr fmIAE
  | _ => r = .inr fmNSE
def scEnd (T : fmT) (inv : Nat → List scI) (c : scC) (σ : List Int) (M : fmM) (r : fmR) (M' : fmM) : Prop := (∃ o ∈ c.2.2.2.2.2.1, scRk o r ∧ (∀ q ∈ o.2.2.2.1, ∃ x, σ[q.1]? = some x ∧ q.2.1 ≤ x ∧ x ≤ q.2.2) ∧ ∀ q ∈ o.2.2.2.2, q.2.1 ≤ (M'.1 q.1.1 q.1.2).toInt ∧ (M'.1 q.1.1 q.1.2).toInt ≤ q.2.2) ∧ scInv T inv M' ∧ scFr c.2.2.2.2.2.2 M M'
/-- the contract holds -/
def scH (T : fmT) (inv : Nat → List scI) (c : scC) : Prop := ∀ (M : fmM) (σ : List Int) (as : List Value), scEk c.2.2.1 σ → scSk σ c.2.2.2.1 as → scFk σ c.2.2.2.2.1 M → scInv T inv M → pvGood T c.2.1 c.1 as M (scEnd T inv c σ M)
/-- a call: place of the pool, 0 of an object or 1 static, class; the contract -/
abbrev scCl : Type := Nat × Nat × Nat × scC
def scClk (T : fmT) (inv : Nat → List scI) (own : String) (q : scCl) : Prop := match q.2.1 with
  | 0 => (∃ n i0, pvCq own q.1 = some (i0, 0, q.2.2.1, n, q.2.2.2.1) ∧ q.2.2.2.2.2.2.1.length = n + 1) ∧ scH T inv q.2.2.2
  | 1 => (pvMm own q.1 = none ∧ pvCp own q.1 = false ∧ pvMl own q.1 = none ∧ ∃ i0 ci, pvCq own q.1 = some (i0, 1, ci, q.2.2.2.2.2.2.1.length, q.2.2.2.1)) ∧ scH T inv q.2.2.2
  | 2 => ∃ i0 ci y', pvCq own q.1 = some (i0, 2, ci, 0, y')
  | _ => ∃ i0 ci y', pvCq own q.1 = some (i0, 3, ci, 1, y')
end
-- P 10gf
section
-- THE CHECKER: one instruction
/-- tables, bounds, links (and texts), calls, the contract -/
abbrev scX : Type := fmT × (Nat → List scI) × (scLn × List (Nat × Nat)) × List scCl × scC
abbrev scRes : Type := Option (List (Nat × scS))
def scOne (pc : Nat) (s : scS) : scRes := some [(pc, s)]
def scPush (pc : Nat) (s : scS) (S : List scV) (r : scR) : scRes := some [(pc, (r.2, s.2.1, .inl r.1 :: S, s.2.2.2))]
def scVals (pc : Nat) (s : scS) (S : List scV) : scRes := some [(pc, (s.1, s.2.1, S, s.2.2.2))]
def scFact (F : List scF) (k j : Nat) : Option scF := F.find? (fun f => f.1.1 == k && f.1.2 == j)
def scOut (X : scX) (ent : Bool) (env : List scI) (F : List scF) (kind : Nat) (e : scI) : Bool := X.2.2.2.2.2.2.2.2.2.1.any (fun o => Nat.beq o.1 kind && scSub e o.2.1 && (ent || o.2.2.2.1.isEmpty) && o.2.2.2.1.all (fun q => Nat.blt q.1 X.2.2.2.2.2.2.1.length && scSub (env.getD q.1 scTop) q.2) && o.2.2.2.2.all (fun q => Nat.blt q.1.2 (X.1.2.2.1 q.1.1) && scSub (match scFact F q.1.1 q.1.2 with
  | some f => scIv env f.2
  | none => scAt (X.2.1 q.1.1) q.1.2) q.2))
/-- a relation, in one or two pieces: what is all unknown and unlike 0 is below or above it -/
def scCutL (c : scCo) (env : List scI) (a b : scA) : List (List scI) := if decide (c = .ne) && decide (scIv env b = (0, 0)) && decide (scIv env a = scTop) then (scCut env a (-2147483648) (-1)).toList ++ (scCut env a 1 2147483647).toList else (scCutC c env a b).toList
def scCond (pc : Nat) (c : scCo) (off : Int) (s : scS) (S : List scV) (a b : scA) : scRes := if decide (0 ≤ (pc : Int) + off) then some ((scCutL c s.1 a b).map (fun e => (((pc : Int) + off).toNat, ((e, s.2.1, S, s.2.2.2) : scS))) ++ (scCutL (scNeg c) s.1 a b).map (fun e => (pc + 3, ((e, s.2.1, S, s.2.2.2) : scS)))) else none
def scNo2 (Λ : List (Option scV)) (i : Nat) : Bool := match i with
  | 0 => true
  | j + 1 => match Λ.getD j none with
    | some (.inr (.inl _)) => false
    | _ => true
def scLoad (pc : Nat) (s : scS) (i : Nat) (t : Nat) : scRes := match s.2.1.getD i none with
  | some (.inl a) => if Nat.beq t 0 then scVals pc s (.inl a :: s.2.2.1) else none
  | some (.inr (.inl o)) => if Nat.beq t 1 then scVals pc s (.inr (.inl o) :: s.2.2.1) else none
  | some (.inr (.inr r)) => if Nat.beq t 2 then scVals pc s (.inr (.inr r) :: s.2.2.1) else none
  | none => none
def scStor (n pc : Nat) (s : scS) (i : Nat) (t : Nat) : scRes := if scNo2 s.2.1 i then (match s.2.2.1 with
  | .inl a :: S => if Nat.beq t 0 && Nat.blt i n then scOne pc (s.1, s.2.1.set i (some (.inl a)), S, s.2.2.2) else none
  | .inr (.inl o) :: S => if Nat.beq t 1 && Nat.blt (i + 1) n then scOne pc (s.1, (s.2.1.set i (some (.inr (.inl o)))).set (i + 1) none, S, s.2.2.2) else none
  | .inr (.inr r) :: S => if Nat.beq t 2 && Nat.blt i n then scOne pc (s.1, s.2.1.set i (some (.inr (.inr r))), S, s.2.2.2) else none
  | [] => none) else none
def scBin (pc : Nat) (s : scS) (f : List scI → scA → scA → scR) : scRes := match s.2.2.1 with
  | .inl b :: .inl a :: S => scPush pc s S (f s.1 a b)
  | _ => none
def scBinT (pc : Nat) (s : scS) : scRes := match s.2.2.1 with
  | .inl _ :: .inl _ :: S => scPush pc s S (scNew s.1 scTop)
  | _ => none
def scLmul (e f : scI) : scI := if decide (0 ≤ e.1) && decide (0 ≤ f.1) && decide (e.2 * f.2 ≤ 9223372036854775807) then (e.1 * f.1, e.2 * f.2) else scTopL
def scLong2 (pc : Nat) (s : scS) : scRes := match s.2.2.1 with
  | .inr (.inl _) :: .inr (.inl _) :: S => scVals pc s (.inr (.inl scTopL) :: S)
  | _ => none
def scCells (T : fmT) (ks : List Nat) (kd n : Nat) : Bool := ks.all (fun k => Nat.blt k T.1 && Nat.beq (T.2.1 k) kd && Nat.blt n (T.2.2.1 k))
def scRd (X : scX) (pc : Nat) (s : scS) (S : List scV) (ks : List Nat) (a n : Nat) : scRes := match ks, n with
  | [k], 0 => some [(pc, ((scRead X.2.1 s.1 s.2.2.2 k a).1.2, s.2.1, .inl (scRead X.2.1 s.1 s.2.2.2 k a).1.1 :: S, (scRead X.2.1 s.1 s.2.2.2 k a).2))]
  | ks, n => scPush pc s S (scNew s.1 (scRgs X.2.1 a n ks))
def scW (X : scX) : List (Nat × Nat × Nat) := X.2.2.2.2.2.2.2.2.2.2
def scWt (X : scX) (pc : Nat) (s : scS) (S : List scV) (ks : List Nat) (a n : Nat) (e : scI) (v : Option scA) : scRes := if scWr X.2.1 (scW X) ks a n e then scOne pc (s.1, s.2.1, S, match ks, n, v with
  | [k], 0, some v => ((k, a), v) :: scKl s.2.2.2 ks a n
  | _, _, _ => scKl s.2.2.2 ks a n) else none
def scGet (X : scX) (pc : Nat) (s : scS) (idx : Nat) : scRes := match s.2.2.1 with
  | .inr (.inr (.inl ks)) :: S => match X.2.2.1.1.1.find? (fun f => Nat.beq f.1 idx) with
    | some f => if scCells X.1 ks (f.2.1 + 6) f.2.2.1 then (match f.2.2.2.1 with
      | 0 => scRd X pc s S ks f.2.2.1 0
      | 1 => scVals pc s (.inr (.inl scTopL) :: S)
      | 2 => if ks.all (fun k => Nat.blt (X.1.2.2.2 k f.2.2.1) 1000) then scVals pc s (.inr (.inr (.inl (ks.map (fun k => X.1.2.2.2 k f.2.2.1)))) :: S) else none
      | _ => none) else none
    | none => none
  | _ => none
def scPut (X : scX) (pc : Nat) (s : scS) (idx : Nat) : scRes := match s.2.2.1 with
  | v :: .inr (.inr (.inl ks)) :: S => match X.2.2.1.1.1.find? (fun f => Nat.beq f.1 idx) with
    | some f => if scCells X.1 ks (f.2.1 + 6) f.2.2.1 && f.2.2.2.2 then (match f.2.2.2.1, v with
      | 0, .inl a => scWt X pc s S ks f.2.2.1 0 (scIv s.1 a) (some a)
      | 1, .inr (.inl _) => if ks.all (fun k => scWin (scW X) k f.2.2.1 0) then scVals pc s S else none
      | _, _ => none) else none
    | none => none
  | _ => none
/-- the first place and how many more, of an index -/
def scIx (e : scI) : Nat × Nat := (e.1.toNat, (e.2 - e.1).toNat)
def scInx (T : fmT) (ks : List Nat) (kd : Nat) (e : scI) : Bool := decide (0 ≤ e.1) && ks.all (fun k => Nat.blt k T.1 && Nat.beq (T.2.1 k) kd && decide (e.2 < T.2.2.1 k))
def scAld (X : scX) (pc : Nat) (s : scS) (kd : Nat) : scRes := match s.2.2.1 with
  | .inl a :: .inr (.inr (.inl ks)) :: S => if scInx X.1 ks kd (scIv s.1 a) then (match kd with
    | 1 => scVals pc s (.inr (.inl scTopL) :: S)
    | _ => scRd X pc s S ks (scIx (scIv s.1 a)).1 (scIx (scIv s.1 a)).2) else none
  | _ => none
def scAst (X : scX) (pc : Nat) (s : scS) (kd : Nat) : scRes := match s.2.2.1 with
  | v :: .inl a :: .inr (.inr (.inl ks)) :: S => if scInx X.1 ks kd (scIv s.1 a) then (match kd, v with
    | 0, .inl v => scWt X pc s S ks (scIx (scIv s.1 a)).1 (scIx (scIv s.1 a)).2 (scIv s.1 v) (some v)
    | 2, .inl _ => scWt X pc s S ks (scIx (scIv s.1 a)).1 (scIx (scIv s.1 a)).2 (-128, 127) none
    | 1, .inr (.inl _) => if ks.all (fun k => scWin (scW X) k (scIx (scIv s.1 a)).1 (scIx (scIv s.1 a)).2) then scVals pc s S else none
    | _, _ => none) else none
  | _ => none
def scAald (X : scX) (pc : Nat) (s : scS) : scRes := match s.2.2.1 with
  | .inl a :: .inr (.inr (.inl ks)) :: S => if decide (0 ≤ (scIv s.1 a).1) && ks.all (fun k => Nat.blt k X.1.1 && Nat.ble 3 (X.1.2.1 k) && Nat.ble (X.1.2.1 k) 5 && decide ((scIv s.1 a).2 < X.1.2.2.1 k)) && ks.all (fun k => (List.range ((scIx (scIv s.1 a)).2 + 1)).all (fun q => Nat.blt (X.1.2.2.2 k ((scIx (scIv s.1 a)).1 + q)) 1000)) then scVals pc s (.inr (.inr (.inl (ks.flatMap (fun k => (List.range ((scIx (scIv s.1 a)).2 + 1)).map (fun q => X.1.2.2.2 k ((scIx (scIv s.1 a)).1 + q)))))) :: S) else none
  | _ => none
def scAlen (X : scX) (pc : Nat) (s : scS) : scRes := match s.2.2.1 with
  | .inr (.inr (.inl (k :: ks))) :: S => if (k :: ks).all (fun q => Nat.blt q X.1.1 && Nat.ble (X.1.2.1 q) 1 && Nat.beq (X.1.2.2.1 q) (X.1.2.2.1 k)) && Nat.blt (X.1.2.2.1 k) 100000 then scVals pc s (.inl (none, (X.1.2.2.1 k : Int)) :: S) else none
  | _ => none
def scCat (S : List scV) : Nat := match S with
  | [] => 0
  | .inr (.inl _) :: S => 2 + scCat S
  | _ :: S => 1 + scCat S
/-- an end of a call, at the caller's -/
def scCutR (B : scB) : List (Nat × scI) → List scI → Option (List scI)
  | [], env => some env
  | q :: qs, env => match B.getD q.1 none with
    | some b => (scCut env b q.2.1 q.2.2).bind (scCutR B qs)
    | none => scCutR B qs env
def scMem : List ((Nat × Nat) × scI) → List scI → List scF → Option (List scI × List scF)
  | [], env, F => some (env, F)
  | q :: qs, env, F => match scFact F q.1.1 q.1.2 with
    | some f => (scCut env f.2 q.2.1 q.2.2).bind (fun e => scMem qs e F)
    | none => scMem qs (env ++ [q.2]) ((q.1, (some env.length, 0)) :: F)
def scKlW (W : List (Nat × Nat × Nat)) (F : List scF) : List scF := F.filter (fun f => !(scIn W f.1.1 f.1.2))
def scAft (W : List (Nat × Nat × Nat)) (r : List scI × List scF × scB) (o : scO) : Option (List scI × List scF) := (scCutR r.2.2 o.2.2.2.1 r.1).bind (fun env => scMem o.2.2.2.2 env (scKlW W r.2.1))
def scEnds (X : scX) (ent : Bool) (pc : Nat) (s : scS) (S : List scV) (W : List (Nat × Nat × Nat)) (r : List scI × List scF × scB) : List scO → scRes
  | [] => some []
  | o :: os => match scAft W r o with
    | none => scEnds X ent pc s S W r os
    | some q => match o.1 with
      | 0 => (scEnds X ent pc s S W r os).map (fun l => (pc, (q.1, s.2.1, S, q.2)) :: l)
      | 1 => (scEnds X ent pc s S W r os).map (fun l => (pc, (q.1 ++ [o.2.1], s.2.1, .inl (some q.1.length, 0) :: S, q.2)) :: l)
      | 2 => (scEnds X ent pc s S W r os).map (fun l => (pc, (q.1, s.2.1, .inr (.inl o.2.1) :: S, q.2)) :: l)
      | 4 => if scOut X ent q.1 q.2 4 o.2.1 then scEnds X ent pc s S W r os else none
      | 5 => if scOut X ent q.1 q.2 5 o.2.1 then scEnds X ent pc s S W r os else none
      | _ => none
def scArgs (S : List scV) (n : Nat) : List scV := (S.take n).reverse
def scRecv (T : fmT) (kind ci : Nat) (as : List scV) : Bool := match kind with
  | 0 => match as with
    | .inr (.inr (.inl ks)) :: _ => ks.all (fun k => Nat.blt k T.1 && Nat.beq (T.2.1 k) (ci + 6))
    | _ => false
  | 1 => true
  | _ => false
def scTry (X : scX) (s : scS) (q : scCl) : Option (List scI × List scF × scB) := if Nat.ble q.2.2.2.2.2.2.1.length s.2.2.1.length && Nat.ble (q.2.2.2.2.1 + 1) X.2.2.2.2.2.1 && Nat.ble (scCat (s.2.2.1.drop q.2.2.2.2.2.2.1.length)) 8 && q.2.2.2.2.2.2.2.2.2.all (fun w => scWin (scW X) w.1 w.2.1 (w.2.2 - 1) && Nat.blt 0 w.2.2) && scRecv X.1 q.2.1 q.2.2.1 (scArgs s.2.2.1 q.2.2.2.2.2.2.1.length) then scInc X.1 X.2.1 (s.1, [], scArgs s.2.2.1 q.2.2.2.2.2.2.1.length, s.2.2.2) (q.2.2.2.2.2.1, [], q.2.2.2.2.2.2.1, q.2.2.2.2.2.2.2.1) else none
def scCall (X : scX) (ent : Bool) (pc : Nat) (s : scS) (idx kind : Nat) : List scCl → scRes
  | [] => none
  | q :: qs => if Nat.beq q.1 idx && Nat.beq q.2.1 kind then (match scTry X s q with
    | some r => scEnds X ent pc s (s.2.2.1.drop q.2.2.2.2.2.2.1.length) q.2.2.2.2.2.2.2.2.2 r q.2.2.2.2.2.2.2.2.1
    | none => scCall X ent pc s idx kind qs) else scCall X ent pc s idx kind qs
def scMax (x z : scI) : scI := (if x.1 ≤ z.1 then z.1 else x.1, if x.2 ≤ z.2 then z.2 else x.2)
def scMin (x z : scI) : scI := (if x.1 ≤ z.1 then x.1 else z.1, if x.2 ≤ z.2 then x.2 else z.2)
def scMmx (X : scX) (pc : Nat) (s : scS) (b : Bool) : scRes := match s.2.2.1 with
  | .inl z :: .inl x :: S => if Nat.ble 1 X.2.2.2.2.2.1 && Nat.ble (scCat S) 8 then scPush pc s S (scNew s.1 (if b then scMax (scIv s.1 x) (scIv s.1 z) else scMin (scIv s.1 x) (scIv s.1 z))) else none
  | _ => none
def scCpy (X : scX) (pc : Nat) (s : scS) : scRes := match s.2.2.1 with
  | .inl n :: .inl dp :: .inr (.inr (.inl k1)) :: .inl sp :: .inr (.inr (.inl k0)) :: S => if decide (scIv s.1 dp = (0, 0)) && decide (scIv s.1 sp = (0, 0)) && decide (1 ≤ (scIv s.1 n).1) && decide ((scIv s.1 n).1 = (scIv s.1 n).2) && Nat.ble (scCat S) 8 && k0.all (fun k => Nat.blt k X.1.1 && Nat.beq (X.1.2.1 k) 0 && Nat.ble (scIv s.1 n).1.toNat (X.1.2.2.1 k)) && k1.all (fun k => Nat.blt k X.1.1 && Nat.beq (X.1.2.1 k) 0 && Nat.ble (scIv s.1 n).1.toNat (X.1.2.2.1 k) && scWin (scW X) k 0 ((scIv s.1 n).1.toNat - 1) && scFree X.2.1 k 0 ((scIv s.1 n).1.toNat - 1) && k0.all (fun h => (List.range (scIv s.1 n).1.toNat).all (fun j => scSub (scAt (X.2.1 h) j) (scAt (X.2.1 k) j)))) then scOne pc (s.1, s.2.1, S, scKl s.2.2.2 k1 0 ((scIv s.1 n).1.toNat - 1)) else none
  | _ => none
def scLl (X : scX) (pc : Nat) (s : scS) : scRes := match s.2.2.1 with
  | .inr (.inl _) :: .inr (.inl _) :: S => if Nat.ble 1 X.2.2.2.2.2.1 && Nat.ble (scCat S) 8 then scVals pc s (.inr (.inl scTopL) :: S) else none
  | _ => none
/-- a text's length, a text's sign -/
def scStr (X : scX) (pc : Nat) (s : scS) (idx : Nat) : scRes := match X.2.2.2.1.find? (fun q => Nat.beq q.1 idx && (Nat.beq q.2.1 2 || Nat.beq q.2.1 3)) with
  | some q => match q.2.1 with
    | 2 => match s.2.2.1 with
      | .inr (.inr (.inr t)) :: S => if Nat.blt t 5 && Nat.ble 2 X.2.2.2.2.2.1 && Nat.ble (scCat S) 8 then scVals pc s (.inl (none, (nI (fmLen.getD t 0)).toInt) :: S) else none
      | _ => none
    | 3 => match s.2.2.1 with
      | .inl a :: .inr (.inr (.inr t)) :: S => if Nat.blt t 5 && Nat.ble 4 X.2.2.2.2.2.1 && Nat.ble (scCat S) 8 && decide (0 ≤ (scIv s.1 a).1) && decide ((scIv s.1 a).1 = (scIv s.1 a).2) && decide ((scIv s.1 a).2 < (fmLen.getD t 0 : Int)) then scVals pc s (.inl (none, (chE t (scIv s.1 a).1.toNat).toInt) :: S) else none
      | _ => none
    | _ => none
  | none => none
def scStat (X : scX) (ent : Bool) (pc : Nat) (s : scS) (idx : Nat) : scRes := match X.2.2.1.1.2.2.2.1.find? (fun q => Nat.beq q.1 idx) with
  | some q => scMmx X pc s q.2
  | none => if X.2.2.1.1.2.2.1.any (fun q => Nat.beq q idx) then scCpy X pc s else if X.2.2.1.1.2.2.2.2.any (fun q => Nat.beq q.1 idx) then scLl X pc s else scCall X ent pc s idx 1 X.2.2.2.1
def scLdc (X : scX) (pc : Nat) (s : scS) (idx : Nat) (t : Nat) : scRes := match X.2.2.1.1.2.1.find? (fun q => Nat.beq q.1 idx) with
  | some (_, .inl v) => if Nat.beq t 0 then scVals pc s (.inl (none, v.toInt) :: s.2.2.1) else none
  | some (_, .inr v) => if Nat.beq t 1 then scVals pc s (.inr (.inl (v.toInt, v.toInt)) :: s.2.2.1) else none
  | none => if Nat.beq t 0 then (match X.2.2.1.2.find? (fun q => Nat.beq q.1 idx) with
    | some q => scVals pc s (.inr (.inr (.inr q.2)) :: s.2.2.1)
    | none => none) else none
def scTab (pc : Nat) (s : scS) (dflt lo hi : Int) (offs : Array Int) : scRes := match s.2.2.1 with
  | .inl a :: S => if Nat.beq offs.size (hi - lo + 1).toNat && decide (0 ≤ (pc : Int) + dflt) && (List.range (hi - lo + 1).toNat).all (fun q => decide (0 ≤ (pc : Int) + offs.getD q 0)) then some ((if decide (lo ≤ (scIv s.1 a).1) && decide ((scIv s.1 a).2 ≤ hi) then [] else [(((pc : Int) + dflt).toNat, (s.1, s.2.1, S, s.2.2.2))]) ++ (List.range (hi - lo + 1).toNat).flatMap (fun (q : Nat) => match scCut s.1 a (lo + (q : Int)) (lo + (q : Int)) with
      | some e => [(((pc : Int) + offs.getD q 0).toNat, (e, s.2.1, S, s.2.2.2))]
      | none => [])) else none
  | _ => none
def scLook (pc : Nat) (s : scS) (dflt : Int) (ps : Array (Int × Int)) : scRes := match s.2.2.1 with
  | .inl _ :: S => if (ps.toList.zip (ps.toList.drop 1)).all (fun (a, next) => a.1 < next.1) && (dflt :: ps.toList.map (fun q => q.2)).all (fun o => decide (0 ≤ (pc : Int) + o)) then some ((dflt :: ps.toList.map (fun q => q.2)).map (fun o => (((pc : Int) + o).toNat, ((s.1, s.2.1, S, s.2.2.2) : scS)))) else none
  | _ => none
def scThr (X : scX) (ent : Bool) (pc : Nat) (s : scS) (idx : Nat) : scRes := match s.2.2.1 with
  | [] => if Nat.beq (pvK X.2.2.2.2.1.1.cls) 10 && decide (decode X.2.2.2.2.1.2.1 (pc + 3) = .ok (.dup, 1)) && decide (decode X.2.2.2.2.1.2.1 (pc + 10) = .ok (.athrow, 1)) then (if Nat.beq idx 376 && decide (decode X.2.2.2.2.1.2.1 (pc + 4) = .ok (.ldc_w 378, 3)) && decide (decode X.2.2.2.2.1.2.1 (pc + 7) = .ok (.invokespecial 380, 3)) && scOut X ent s.1 s.2.2.2 4 (0, 0) then some [] else if Nat.beq idx 369 && decide (decode X.2.2.2.2.1.2.1 (pc + 4) = .ok (.ldc_w 371, 3)) && decide (decode X.2.2.2.2.1.2.1 (pc + 7) = .ok (.invokespecial 373, 3)) && scOut X ent s.1 s.2.2.2 5 (0, 0) then some [] else none) else none
  | _ => none
def scStp (X : scX) (ent : Bool) (pc : Nat) (i : Instr) (s : scS) : scRes := match i with
  | .iconst n => if decide (-1 ≤ n) && decide (n ≤ 5) then scVals (pc + 1) s (.inl (none, n) :: s.2.2.1) else none
  | .bipush n => if decide (-128 ≤ n) && decide (n ≤ 127) then scVals (pc + 2) s (.inl (none, n) :: s.2.2.1) else none
  | .sipush n => if decide (-32768 ≤ n) && decide (n ≤ 32767) then scVals (pc + 3) s (.inl (none, n) :: s.2.2.1) else none
  | .lconst n => scVals (pc + 1) s (.inr (.inl ((n.val : Int), (n.val : Int))) :: s.2.2.1)
  | .iload_n n => scLoad (pc + 1) s n.val 0
  | .iload n => scLoad (pc + 2) s n 0
  | .lload_n n => scLoad (pc + 1) s n.val 1
  | .lload n => scLoad (pc + 2) s n 1
  | .aload_n n => scLoad (pc + 1) s n.val 2
  | .aload n => scLoad (pc + 2) s n 2
  | .istore_n n => scStor X.2.2.2.2.1.2.2.1 (pc + 1) s n.val 0
  | .istore n => scStor X.2.2.2.2.1.2.2.1 (pc + 2) s n 0
  | .lstore_n n => scStor X.2.2.2.2.1.2.2.1 (pc + 1) s n.val 1
  | .lstore n => scStor X.2.2.2.2.1.2.2.1 (pc + 2) s n 1
  | .astore_n n => scStor X.2.2.2.2.1.2.2.1 (pc + 1) s n.val 2
  | .astore n => scStor X.2.2.2.2.1.2.2.1 (pc + 2) s n 2
  | .iinc n v => match s.2.1.getD n none with
    | some (.inl a) => if scNo2 s.2.1 n && Nat.blt n X.2.2.2.2.1.2.2.1 && decide (-128 ≤ v) && decide (v ≤ 127) then scOne (pc + 3) ((scAdd s.1 a (none, v)).2, s.2.1.set n (some (.inl (scAdd s.1 a (none, v)).1)), s.2.2.1, s.2.2.2) else none
    | _ => none
  | .iadd => scBin (pc + 1) s scAdd
  | .isub => scBin (pc + 1) s scSubt
  | .imul => scBin (pc + 1) s scMul
  | .idiv => match s.2.2.1 with
    | .inl b :: .inl a :: S => if decide (0 < (scIv s.1 b).1) then scPush (pc + 1) s S (scDiv s.1 a) else if decide ((scIv s.1 b).2 < 0) then scPush (pc + 1) s S (scNew s.1 scTop) else none
    | _ => none
  | .irem => match s.2.2.1 with
    | .inl b :: .inl _ :: S => if decide (0 < (scIv s.1 b).1) then scPush (pc + 1) s S (scNew s.1 scTop) else none
    | _ => none
  | .iand => scBin (pc + 1) s scAnd
  | .ior => scBinT (pc + 1) s
  | .ixor => scBinT (pc + 1) s
  | .ishl => scBinT (pc + 1) s
  | .ishr => scBinT (pc + 1) s
  | .iushr => scBinT (pc + 1) s
  | .ineg => match s.2.2.1 with
    | .inl a :: S => scPush (pc + 1) s S (scSubt s.1 (none, 0) a)
    | _ => none
  | .i2b => match s.2.2.1 with
    | .inl _ :: S => scPush (pc + 1) s S (scNew s.1 scTop)
    | _ => none
  | .i2l => match s.2.2.1 with
    | .inl a :: S => scVals (pc + 1) s (.inr (.inl (scIv s.1 a)) :: S)
    | _ => none
  | .l2i => match s.2.2.1 with
    | .inr (.inl _) :: S => scPush (pc + 1) s S (scNew s.1 scTop)
    | _ => none
  | .ladd => scLong2 (pc + 1) s
  | .lsub => scLong2 (pc + 1) s
  | .lmul => match s.2.2.1 with
    | .inr (.inl f) :: .inr (.inl e) :: S => scVals (pc + 1) s (.inr (.inl (scLmul e f)) :: S)
    | _ => none
  | .land => scLong2 (pc + 1) s
  | .lor => scLong2 (pc + 1) s
  | .lxor => scLong2 (pc + 1) s
  | .ldiv => match s.2.2.1 with
    | .inr (.inl f) :: .inr (.inl _) :: S => if decide (0 < f.1) then scVals (pc + 1) s (.inr (.inl scTopL) :: S) else none
    | _ => none
  | .lshl => match s.2.2.1 with
    | .inl _ :: .inr (.inl _) :: S => scVals (pc + 1) s (.inr (.inl scTopL) :: S)
    | _ => none
  | .lshr => match s.2.2.1 with
    | .inl _ :: .inr (.inl _) :: S => scVals (pc + 1) s (.inr (.inl scTopL) :: S)
    | _ => none
  | .lcmp => match s.2.2.1 with
    | .inr (.inl _) :: .inr (.inl _) :: S => scPush (pc + 1) s S (scNew s.1 scTop)
    | _ => none
  | .dup => match s.2.2.1 with
    | .inl a :: S => scVals (pc + 1) s (.inl a :: .inl a :: S)
    | .inr (.inr r) :: S => scVals (pc + 1) s (.inr (.inr r) :: .inr (.inr r) :: S)
    | _ => none
  | .dup2 => match s.2.2.1 with
    | .inl a :: .inr (.inr r) :: S => scVals (pc + 1) s (.inl a :: .inr (.inr r) :: .inl a :: .inr (.inr r) :: S)
    | _ => none
  | .pop => match s.2.2.1 with
    | .inl _ :: S => scVals (pc + 1) s S
    | .inr (.inr _) :: S => scVals (pc + 1) s S
    | _ => none
  | .goto off => if decide (0 ≤ (pc : Int) + off) then scOne ((pc : Int) + off).toNat s else none
  | .ifCond c off => match s.2.2.1 with
    | .inl a :: S => scCond pc c off s S a (none, 0)
    | _ => none
  | .if_icmp c off => match s.2.2.1 with
    | .inl b :: .inl a :: S => scCond pc c off s S a b
    | _ => none
  | .getfield idx => scGet X (pc + 3) s idx
  | .putfield idx => scPut X (pc + 3) s idx
  | .iaload => scAld X (pc + 1) s 0
  | .laload => scAld X (pc + 1) s 1
  | .baload => scAld X (pc + 1) s 2
  | .iastore => scAst X (pc + 1) s 0
  | .lastore => scAst X (pc + 1) s 1
  | .bastore => scAst X (pc + 1) s 2
  | .aaload => scAald X (pc + 1) s
  | .arraylength => scAlen X (pc + 1) s
  | .ldc idx => scLdc X (pc + 2) s idx 0
  | .ldc_w idx => match X.2.2.1.1.2.1.find? (fun q => Nat.beq q.1 idx) with
    | some (_, .inl v) => scVals (pc + 3) s (.inl (none, v.toInt) :: s.2.2.1)
    | _ => none
  | .ldc2_w idx => scLdc X (pc + 3) s idx 1
  | .tableswitch dflt lo hi offs => scTab pc s dflt lo hi offs
  | .lookupswitch dflt ps => scLook pc s dflt ps
  | .new idx => scThr X ent pc s idx
  | .invokevirtual idx => match scCall X ent (pc + 3) s idx 0 X.2.2.2.1 with
    | some r => some r
    | none => scStr X (pc + 3) s idx
  | .invokestatic idx => scStat X ent (pc + 3) s idx
  | .ireturn => match s.2.2.1 with
    | [.inl a] => match X.2.2.2.2.1.2.2.2 with
      | some .int => if scOut X ent s.1 s.2.2.2 1 (scIv s.1 a) then some [] else none
      | some .boolean => if scOut X ent s.1 s.2.2.2 1 (scIv s.1 a) && scSub (scIv s.1 a) (0, 1) then some [] else none
      | _ => none
    | _ => none
  | .lreturn => match s.2.2.1 with
    | [.inr (.inl e)] => match X.2.2.2.2.1.2.2.2 with
      | some .long => if scOut X ent s.1 s.2.2.2 2 e then some [] else none
      | _ => none
    | _ => none
  | .return_ => match s.2.2.1 with
    | [] => match X.2.2.2.2.1.2.2.2 with
      | none => if scOut X ent s.1 s.2.2.2 0 (0, 0) then some [] else none
      | _ => none
    | _ => none
  | _ => none
end
-- P 10gg
section
-- THE CHECKER: one instruction is right
def scXk (X : scX) : Prop := pvLn (pvK X.2.2.2.2.1.1.cls) = X.2.2.1 ∧ ∀ q ∈ X.2.2.2.1, scClk X.1 X.2.1 X.2.2.2.2.1.1.cls q
abbrev scGoal (X : scX) (M0 : fmM) (ρ0 : List Int) (pc : Nat) (L : List (Option Value)) (st : List Value) (M : fmM) : Prop := pvEv X.1 X.2.2.2.2.2.1 X.2.2.2.2.1 pc L st M (scEnd X.1 X.2.1 X.2.2.2.2 ρ0 M0)
abbrev scHold (X : scX) (M0 : fmM) (s : scS) (σ : List Int) (L : List (Option Value)) (st : List Value) (M : fmM) : Prop := scOf X.1 X.2.1 (scW X) M0 s σ L st M
def scGoes (X : scX) (M0 : fmM) (ρ0 σ : List Int) (q : Nat × scS) : Prop := ∀ (τ : List Int) (L : List (Option Value)) (st : List Value) (M : fmM), scHold X M0 q.2 (σ ++ τ) L st M → scGoal X M0 ρ0 q.1 L st M
section ScInv
variable {σ : List Int} {S : List scV} {st : List Value}
theorem scSk_i {a : scA} (h : scSk σ (.inl a :: S) st) : ∃ (n : Int32) (st' : List Value), st = .int n :: st' ∧ scEv σ a n.toInt ∧ scSk σ S st' := by
  cases st with
  | nil => exact h.elim
  | cons w st =>
    obtain ⟨⟨n, e, h1⟩, h2⟩ := h
    exact ⟨n, st, by rw [e], h1, h2⟩
theorem scSk_j {o : scI} (h : scSk σ (.inr (.inl o) :: S) st) : ∃ (n : Int64) (st' : List Value), st = .long n :: st' ∧ (o.1 ≤ n.toInt ∧ n.toInt ≤ o.2) ∧ scSk σ S st' := by
  cases st with
  | nil => exact h.elim
  | cons w st =>
    obtain ⟨⟨n, e, h1⟩, h2⟩ := h
    exact ⟨n, st, by rw [e], h1, h2⟩
theorem scSk_r {ks : List Nat} (h : scSk σ (.inr (.inr (.inl ks)) :: S) st) : ∃ (k : Nat) (st' : List Value), k ∈ ks ∧ st = .ref k :: st' ∧ scSk σ S st' := by
  cases st with
  | nil => exact h.elim
  | cons w st =>
    obtain ⟨⟨k, hk, e⟩, h2⟩ := h
    exact ⟨k, st, hk, by rw [e], h2⟩
theorem scSk_q {r : List Nat ⊕ Nat} (h : scSk σ (.inr (.inr r) :: S) st) : ∃ (w : Nat) (st' : List Value), st = .ref w :: st' ∧ scVk σ (.inr (.inr r)) (.ref w) ∧ scSk σ S st' := by
  cases st with
  | nil => exact h.elim
  | cons w st =>
    obtain ⟨h1, h2⟩ := h
    cases r with
    | inl ks =>
      obtain ⟨k, hk, e⟩ := h1
      subst e
      exact ⟨_, st, rfl, ⟨k, hk, rfl⟩, h2⟩
    | inr i =>
      have e : w = .ref (1000 + i) := h1
      subst e
      exact ⟨_, st, rfl, rfl, h2⟩
theorem scSk_0 (h : scSk σ [] st) : st = [] := by
  cases st with
  | nil => rfl
  | cons => exact h.elim
theorem scSk_cat : ∀ {S : List scV} {st : List Value}, scSk σ S st → (st.map fun v => v.category).sum = scCat S
  | [], [], _ => rfl
  | .inl a :: S, w :: st, h => by
    obtain ⟨⟨n, e, _⟩, h2⟩ := h
    subst e
    have := scSk_cat h2
    simp only [List.map_cons, List.sum_cons, scCat, this]
    rfl
  | .inr (.inl a) :: S, w :: st, h => by
    obtain ⟨⟨n, e, _⟩, h2⟩ := h
    subst e
    have := scSk_cat h2
    simp only [List.map_cons, List.sum_cons, scCat, this]
    rfl
  | .inr (.inr (.inl a)) :: S, w :: st, h => by
    obtain ⟨⟨n, _, e⟩, h2⟩ := h
    subst e
    have := scSk_cat h2
    simp only [List.map_cons, List.sum_cons, scCat, this]
    rfl
  | .inr (.inr (.inr a)) :: S, w :: st, h => by
    obtain ⟨e, h2⟩ := h
    have e : w = .ref (1000 + a) := e
    subst e
    have := scSk_cat h2
    simp only [List.map_cons, List.sum_cons, scCat, this]
    rfl
  | [], _ :: _, h => h.elim
  | _ :: _, [], h => h.elim
theorem scLk.set {Λ : List (Option scV)} {L : List (Option Value)} {v : Option scV} {w : Option Value} (i : Nat) (h : scLk σ Λ L) (hv : scOk σ v w) : scLk σ (Λ.set i v) (L.set i w) := by
  refine ⟨by simp [h.1], fun j => ?_⟩
  simp only [List.getD, List.getElem?_set]
  by_cases e : i = j
  · subst e
    simp only [if_true]
    by_cases hl : i < Λ.length
    · have hl2 : i < L.length := by rw [← h.1]; exact hl
      simp only [hl, hl2, if_true, Option.getD_some]
      exact hv
    · have hl2 : ¬ i < L.length := by rw [← h.1]; exact hl
      simp [hl, hl2, scOk]
  · simp only [e, if_false]
    exact h.2 j
theorem sc_getD {L : List (Option Value)} {i : Nat} {w : Value} (h : L.getD i none = some w) : L[i]? = some (some w) := by
  simp only [List.getD] at h
  cases hL : L[i]? with
  | none => rw [hL] at h; simp at h
  | some q => rw [hL] at h; simp at h; rw [h]
theorem scLk.kill {Λ : List (Option scV)} {L : List (Option Value)} {i : Nat} (h : scLk σ Λ L) (hn : scNo2 Λ i = true) : scLk σ Λ (pvKill L i) := by
  cases i with
  | zero => exact h
  | succ j =>
    simp only [pvKill]
    split
    · exact h
    · rename_i hk
      refine ⟨by simp [h.1], fun i => ?_⟩
      simp only [List.getD, List.getElem?_set]
      by_cases e : j = i
      · subst e
        simp only [if_true]
        have hj := h.2 j
        simp only [scNo2] at hn
        cases hΛ : Λ.getD j none with
        | none =>
          simp only [List.getD] at hΛ
          rw [hΛ]
          exact trivial
        | some u =>
          exfalso
          apply hk
          simp only [fmNo2]
          split
          · rename_i v hv
            have ev : L.getD j none = some v := by simp [List.getD, hv]
            rw [hΛ, ev] at hj
            rw [hΛ] at hn
            match u, hj with
            | .inl a, ⟨n, e, _⟩ => subst e; rfl
            | .inr (.inl o), _ => cases hn
            | .inr (.inr (.inl ks)), ⟨k, _, e⟩ => subst e; rfl
            | .inr (.inr (.inr q)), e => have e : v = .ref (1000 + q) := e; subst e; rfl
          · rfl
      · simp only [e, if_false]
        have := h.2 i
        simp only [List.getD] at this
        exact this
end ScInv
theorem scCutL_ok {c : scCo} {env : List scI} {σ : List Int} {a b : scA} {x z : Int} (h : scEk env σ) (ha : scEv σ a x) (hb : scEv σ b z) (hr : scRel c x z) : ∃ env' ∈ scCutL c env a b, scEk env' σ := by
  unfold scCutL
  split
  · rename_i hc
    simp only [Bool.and_eq_true, decide_eq_true_eq] at hc
    obtain ⟨⟨c1, c2⟩, c3⟩ := hc
    subst c1
    have ia := ha.iv h
    have ib := hb.iv h
    rw [c2] at ib
    rw [c3] at ia
    simp only [scTop] at ia ib
    have hr' : ¬ x = z := hr
    rcases (show x ≤ -1 ∨ 1 ≤ x by omega) with h1 | h1
    · obtain ⟨e, q1, q2⟩ := scCut_ok (lo := -2147483648) (hi := -1) h ha (by omega) h1
      exact ⟨e, List.mem_append_left _ (by rw [q1]; exact List.mem_cons_self), q2⟩
    · obtain ⟨e, q1, q2⟩ := scCut_ok (lo := 1) (hi := 2147483647) h ha h1 (by omega)
      exact ⟨e, List.mem_append_right _ (by rw [q1]; exact List.mem_cons_self), q2⟩
  · obtain ⟨e, q1, q2⟩ := scCutC_ok h ha hb hr
    exact ⟨e, by rw [q1]; exact List.mem_cons_self, q2⟩
section ScRows
variable {X : scX} {M0 : fmM} {ρ0 σ : List Int} {s : scS} {L : List (Option Value)} {st : List Value} {M : fmM} {pc pc' : Nat} {succs : List (Nat × scS)}
theorem scOne_ok {s' : scS} (h : scOne pc s' = some succs) (k : ∀ q ∈ succs, scGoes X M0 ρ0 σ q) {τ : List Int} {L' : List (Option Value)} {st' : List Value} {M' : fmM} (hs : scHold X M0 s' (σ ++ τ) L' st' M') : scGoal X M0 ρ0 pc L' st' M' := by
  cases h
  exact k (pc, s') List.mem_cons_self τ L' st' M' hs
theorem scVals_ok {S : List scV} {st' : List Value} (hs : scHold X M0 s σ L st M) (h : scVals pc s S = some succs) (k : ∀ q ∈ succs, scGoes X M0 ρ0 σ q) (hS : scSk σ S st') : scGoal X M0 ρ0 pc L st' M := by
  obtain ⟨h1, h2, h3, h4, h5, h6⟩ := hs
  refine scOne_ok (s' := (s.1, s.2.1, S, s.2.2.2)) h k (τ := []) ?_
  rw [List.append_nil]
  exact ⟨h1, h2, hS, h4, h5, h6⟩
theorem scPush_ok {S : List scV} {st' : List Value} {r : scR} {x : Int32} (hs : scHold X M0 s σ L st M) (h : scPush pc s S r = some succs) (k : ∀ q ∈ succs, scGoes X M0 ρ0 σ q) (hS : scSk σ S st') (hn : scNk s.1 σ r x.toInt) : scGoal X M0 ρ0 pc L (.int x :: st') M := by
  obtain ⟨h1, h2, h3, h4, h5, h6⟩ := hs
  obtain ⟨τ, hn1, hn2⟩ := hn
  exact scOne_ok (s' := (r.2, s.2.1, .inl r.1 :: S, s.2.2.2)) h k (τ := τ) ⟨hn1, h2.mono, ⟨⟨x, rfl, hn2⟩, hS.mono⟩, h4.mono, h5, h6⟩
theorem scBin_ok {f : List scI → scA → scA → scR} {op : Int32 → Int32 → Int32} (hs : scHold X M0 s σ L st M) (h : scBin pc' s f = some succs) (k : ∀ q ∈ succs, scGoes X M0 ρ0 σ q) (hf : ∀ {a b : scA} {x z : Int32}, scEv σ a x.toInt → scEv σ b z.toInt → scNk s.1 σ (f s.1 a b) (op x z).toInt) (row : ∀ (x z : Int32) (st : List Value), scGoal X M0 ρ0 pc' L (.int (op x z) :: st) M → scGoal X M0 ρ0 pc L (.int z :: .int x :: st) M) : scGoal X M0 ρ0 pc L st M := by
  unfold scBin at h
  split at h
  · rename_i b a S e
    have h3 := hs.2.2.1
    rw [e] at h3
    obtain ⟨z, st1, e1, hz, q1⟩ := scSk_i h3
    obtain ⟨x, st2, e2, hx, q2⟩ := scSk_i q1
    subst e2
    subst e1
    exact row x z st2 (scPush_ok hs h k q2 (hf hx hz))
  · cases h
theorem scBinT_ok {op : Int32 → Int32 → Int32} (hs : scHold X M0 s σ L st M) (h : scBinT pc' s = some succs) (k : ∀ q ∈ succs, scGoes X M0 ρ0 σ q) (row : ∀ (x z : Int32) (st : List Value), scGoal X M0 ρ0 pc' L (.int (op x z) :: st) M → scGoal X M0 ρ0 pc L (.int z :: .int x :: st) M) : scGoal X M0 ρ0 pc L st M := by
  unfold scBinT at h
  split at h
  · rename_i b a S e
    have h3 := hs.2.2.1
    rw [e] at h3
    obtain ⟨z, st1, e1, hz, q1⟩ := scSk_i h3
    obtain ⟨x, st2, e2, hx, q2⟩ := scSk_i q1
    subst e2
    subst e1
    exact row x z st2 (scPush_ok hs h k q2 (scNk.top _ hs.1))
  · cases h
theorem scLong2_ok {op : Int64 → Int64 → Int64} (hs : scHold X M0 s σ L st M) (h : scLong2 pc' s = some succs) (k : ∀ q ∈ succs, scGoes X M0 ρ0 σ q) (row : ∀ (x z : Int64) (st : List Value), scGoal X M0 ρ0 pc' L (.long (op x z) :: st) M → scGoal X M0 ρ0 pc L (.long z :: .long x :: st) M) : scGoal X M0 ρ0 pc L st M := by
  unfold scLong2 at h
  split at h
  · rename_i b a S e
    have h3 := hs.2.2.1
    rw [e] at h3
    obtain ⟨z, st1, e1, hz, q1⟩ := scSk_j h3
    obtain ⟨x, st2, e2, hx, q2⟩ := scSk_j q1
    subst e2
    subst e1
    exact row x z st2 (scVals_ok hs h k ⟨⟨_, rfl, scq_l _⟩, q2⟩)
  · cases h
theorem scLoad_ok {i t : Nat} (hs : scHold X M0 s σ L st M) (h : scLoad pc' s i t = some succs) (k : ∀ q ∈ succs, scGoes X M0 ρ0 σ q) (rI : t = 0 → ∀ x : Int32, L[i]? = some (some (.int x)) → scGoal X M0 ρ0 pc' L (.int x :: st) M → scGoal X M0 ρ0 pc L st M) (rJ : t = 1 → ∀ x : Int64, L[i]? = some (some (.long x)) → scGoal X M0 ρ0 pc' L (.long x :: st) M → scGoal X M0 ρ0 pc L st M) (rR : t = 2 → ∀ x : Nat, L[i]? = some (some (.ref x)) → scGoal X M0 ρ0 pc' L (.ref x :: st) M → scGoal X M0 ρ0 pc L st M) : scGoal X M0 ρ0 pc L st M := by
  have hl := hs.2.1.2 i
  unfold scLoad at h
  split at h
  · rename_i a e
    rw [e] at hl
    split at h
    · rename_i ht
      cases hL : L.getD i none with
      | none => rw [hL] at hl; exact hl.elim
      | some w =>
        rw [hL] at hl
        obtain ⟨n, e1, hn⟩ := hl
        subst e1
        exact rI (by simpa using ht) n (sc_getD hL) (scVals_ok hs h k ⟨⟨n, rfl, hn⟩, hs.2.2.1⟩)
    · cases h
  · rename_i a e
    rw [e] at hl
    split at h
    · rename_i ht
      cases hL : L.getD i none with
      | none => rw [hL] at hl; exact hl.elim
      | some w =>
        rw [hL] at hl
        obtain ⟨n, e1, hn⟩ := hl
        subst e1
        exact rJ (by simpa using ht) n (sc_getD hL) (scVals_ok hs h k ⟨⟨n, rfl, hn⟩, hs.2.2.1⟩)
    · cases h
  · rename_i a e
    rw [e] at hl
    split at h
    · rename_i ht
      cases hL : L.getD i none with
      | none => rw [hL] at hl; exact hl.elim
      | some w =>
        rw [hL] at hl
        have hl' : scSk σ (.inr (.inr a) :: s.2.2.1) (w :: st) := ⟨hl, hs.2.2.1⟩
        obtain ⟨v, st', e1, hv, h3⟩ := scSk_q hl'
        injection e1 with e1 e2
        subst e1
        exact rR (by simpa using ht) v (sc_getD hL) (scVals_ok hs h k hl')
    · cases h
  · cases h
theorem scStor_ok {n i t : Nat} (hs : scHold X M0 s σ L st M) (h : scStor n pc' s i t = some succs) (k : ∀ q ∈ succs, scGoes X M0 ρ0 σ q) (rI : t = 0 → i < n → ∀ (x : Int32) (st' : List Value), scGoal X M0 ρ0 pc' ((pvKill L i).set i (some (.int x))) st' M → scGoal X M0 ρ0 pc L (.int x :: st') M) (rJ : t = 1 → i + 1 < n → ∀ (x : Int64) (st' : List Value), scGoal X M0 ρ0 pc' (((pvKill L i).set i (some (.long x))).set (i + 1) none) st' M → scGoal X M0 ρ0 pc L (.long x :: st') M) (rR : t = 2 → i < n → ∀ (x : Nat) (st' : List Value), scGoal X M0 ρ0 pc' ((pvKill L i).set i (some (.ref x))) st' M → scGoal X M0 ρ0 pc L (.ref x :: st') M) : scGoal X M0 ρ0 pc L st M := by
  obtain ⟨h1, h2, h3, h4, h5, h6⟩ := id hs
  unfold scStor at h
  split at h
  · rename_i hn
    have h2 := h2.kill hn
    split at h
    · rename_i a S e
      rw [e] at h3
      obtain ⟨x, st1, e1, hx, q3⟩ := scSk_i h3
      subst e1
      split at h
      · rename_i ht
        simp only [Bool.and_eq_true, Nat.beq_eq, Nat.blt_eq] at ht
        refine rI ht.1 ht.2 x st1 (scOne_ok h k (τ := []) ?_)
        rw [List.append_nil]
        exact ⟨h1, h2.set i (v := some (.inl a)) (w := some (.int x)) ⟨x, rfl, hx⟩, q3, h4, h5, h6⟩
      · cases h
    · rename_i a S e
      rw [e] at h3
      obtain ⟨x, st1, e1, hx, q3⟩ := scSk_j h3
      subst e1
      split at h
      · rename_i ht
        simp only [Bool.and_eq_true, Nat.beq_eq, Nat.blt_eq] at ht
        refine rJ ht.1 ht.2 x st1 (scOne_ok h k (τ := []) ?_)
        rw [List.append_nil]
        exact ⟨h1, (h2.set i (v := some (.inr (.inl a))) (w := some (.long x)) ⟨x, rfl, hx⟩).set (i + 1) trivial, q3, h4, h5, h6⟩
      · cases h
    · rename_i a S e
      rw [e] at h3
      obtain ⟨x, st1, e1, hx, q3⟩ := scSk_q h3
      subst e1
      split at h
      · rename_i ht
        simp only [Bool.and_eq_true, Nat.beq_eq, Nat.blt_eq] at ht
        refine rR ht.1 ht.2 x st1 (scOne_ok h k (τ := []) ?_)
        rw [List.append_nil]
        exact ⟨h1, h2.set i (v := some (.inr (.inr a))) (w := some (.ref x)) hx, q3, h4, h5, h6⟩
      · cases h
    · cases h
  · cases h
theorem sc_br {c : scCo} {off : Int} {a b : scA} {S : List scV} {st' : List Value} {x z : Int} (hs : scHold X M0 s σ L st M) (h : scCond pc c off s S a b = some succs) (k : ∀ q ∈ succs, scGoes X M0 ρ0 σ q) (hS : scSk σ S st') (ha : scEv σ a x) (hb : scEv σ b z) : (∃ tgt : Nat, (pc : Int) + off = (tgt : Int) ∧ (scRel c x z → scGoal X M0 ρ0 tgt L st' M)) ∧ (scRel (scNeg c) x z → scGoal X M0 ρ0 (pc + 3) L st' M) := by
  obtain ⟨h1, h2, h3, h4, h5, h6⟩ := hs
  unfold scCond at h
  split at h
  · rename_i ho
    simp only [decide_eq_true_eq] at ho
    cases h
    refine ⟨⟨((pc : Int) + off).toNat, by omega, fun hr => ?_⟩, fun hr => ?_⟩
    · obtain ⟨e, q1, q2⟩ := scCutL_ok h1 ha hb hr
      refine k (((pc : Int) + off).toNat, (e, s.2.1, S, s.2.2.2)) (List.mem_append_left _ (List.mem_map.mpr ⟨e, q1, rfl⟩)) [] L st' M ?_
      rw [List.append_nil]
      exact ⟨q2, h2, hS, h4, h5, h6⟩
    · obtain ⟨e, q1, q2⟩ := scCutL_ok h1 ha hb hr
      refine k (pc + 3, (e, s.2.1, S, s.2.2.2)) (List.mem_append_right _ (List.mem_map.mpr ⟨e, q1, rfl⟩)) [] L st' M ?_
      rw [List.append_nil]
      exact ⟨q2, h2, hS, h4, h5, h6⟩
  · cases h
end ScRows
end
-- P 10gh
section
-- THE CHECKER: memory, ends, calls are right
section ScMem
variable {X : scX} {M0 : fmM} {ρ0 σ : List Int} {s : scS} {L : List (Option Value)} {st : List Value} {M : fmM} {pc pc' : Nat} {succs : List (Nat × scS)}
theorem scCells_ok {T : fmT} {ks : List Nat} {kd n k : Nat} (h : scCells T ks kd n = true) (hk : k ∈ ks) : k < T.1 ∧ T.2.1 k = kd ∧ n < T.2.2.1 k := by
  have := List.all_eq_true.mp h k hk
  simp only [Bool.and_eq_true, Nat.blt_eq, Nat.beq_eq] at this
  exact ⟨this.1.1, this.1.2, this.2⟩
theorem scRd_ok {S : List scV} {st' : List Value} {ks : List Nat} {a n k j : Nat} (hs : scHold X M0 s σ L st M) (h : scRd X pc s S ks a n = some succs) (kk : ∀ q ∈ succs, scGoes X M0 ρ0 σ q) (hS : scSk σ S st') (hk : k ∈ ks) (h1 : a ≤ j) (h2 : j ≤ a + n) (hj : j < X.1.2.2.1 k) : scGoal X M0 ρ0 pc L (.int (M.1 k j) :: st') M := by
  obtain ⟨g1, g2, g3, g4, g5, g6⟩ := id hs
  unfold scRd at h
  split at h
  · rename_i k'
    have e : k = k' := by simpa using hk
    subst e
    have e : j = a := by omega
    subst e
    obtain ⟨τ, q1, q2, q3⟩ := scRead_ok (T := X.1) (k := k) (j := j) g1 g4 g5 hj
    exact scOne_ok (s' := ((scRead X.2.1 s.1 s.2.2.2 k j).1.2, s.2.1, .inl (scRead X.2.1 s.1 s.2.2.2 k j).1.1 :: S, (scRead X.2.1 s.1 s.2.2.2 k j).2)) h kk (τ := τ) ⟨q1, g2.mono, ⟨⟨_, rfl, q2⟩, hS.mono⟩, q3, g5, g6⟩
  · have := scRgs_ok g5 hj h1 h2 hk
    exact scPush_ok hs h kk hS (scNk.new g1 this.1 this.2)
theorem scWt_ok {S : List scV} {st' : List Value} {ks : List Nat} {a n k j : Nat} {e : scI} {v : Option scA} {x : Int32} (hs : scHold X M0 s σ L st M) (h : scWt X pc s S ks a n e v = some succs) (kk : ∀ q ∈ succs, scGoes X M0 ρ0 σ q) (hS : scSk σ S st') (hk : k ∈ ks) (h1 : a ≤ j) (h2 : j ≤ a + n) (hx : e.1 ≤ x.toInt ∧ x.toInt ≤ e.2) (hv : ∀ q, v = some q → scEv σ q x.toInt) : scGoal X M0 ρ0 pc L st' (fmI M k j x) := by
  obtain ⟨g1, g2, g3, g4, g5, g6⟩ := id hs
  unfold scWt at h
  split at h
  · rename_i hw
    obtain ⟨w1, w2⟩ := scWr_ok hw hk h1 h2 hx g5 g6
    have w3 : scFk σ (scKl s.2.2.2 ks a n) (fmI M k j x) := scKl_ok hk h1 h2 g4
    refine scOne_ok h kk (τ := []) ?_
    rw [List.append_nil]
    refine ⟨g1, g2, hS, ?_, w1, w2⟩
    dsimp only
    split
    · rename_i k' q
      have e1 : k = k' := by simpa using hk
      subst e1
      have e2 : j = a := by omega
      subst e2
      intro f hf
      rcases List.mem_cons.mp hf with e3 | hf
      · subst e3
        show scEv σ q ((fmI M k j x).1 k j).toInt
        rw [fmI_s]
        exact hv q rfl
      · exact w3 f hf
    · exact w3
  · cases h
theorem scGet_ok {idx : Nat} (hX : scXk X) (hs : scHold X M0 s σ L st M) (hd : decode X.2.2.2.2.1.2.1 pc = .ok (.getfield idx, 3)) (h : scGet X (pc + 3) s idx = some succs) (kk : ∀ q ∈ succs, scGoes X M0 ρ0 σ q) : scGoal X M0 ρ0 pc L st M := by
  unfold scGet at h
  split at h
  · rename_i ks S e
    have h3 := hs.2.2.1
    rw [e] at h3
    obtain ⟨k, st1, hk, e1, q1⟩ := scSk_r h3
    subst e1
    split at h
    · rename_i f hf
      have hf1 : pvFd X.2.2.2.2.1.1.cls idx = some f := by
        unfold pvFd
        rw [hX.1]
        exact hf
      obtain ⟨f0, fc, fj, ft, fw⟩ := f
      simp only at h
      split at h
      · rename_i hc
        obtain ⟨c1, c2, c3⟩ := scCells_ok hc hk
        split at h
        · exact pv_getI hf1 c1 c2 c3 hd (scRd_ok hs h kk q1 hk (Nat.le_refl _) (Nat.le_refl _) c3)
        · exact pv_getJ hf1 c1 c2 c3 hd (scVals_ok hs h kk ⟨⟨_, rfl, scq_l _⟩, q1⟩)
        · split at h
          · rename_i hb
            have hb' := List.all_eq_true.mp hb k hk
            exact pv_getR _ rfl (by simpa using hb') hf1 c1 c2 c3 hd (scVals_ok hs h kk ⟨⟨_, List.mem_map.mpr ⟨k, hk, rfl⟩, rfl⟩, q1⟩)
          · cases h
        · cases h
      · cases h
    · cases h
  · cases h
theorem scPut_ok {idx : Nat} (hX : scXk X) (hs : scHold X M0 s σ L st M) (hd : decode X.2.2.2.2.1.2.1 pc = .ok (.putfield idx, 3)) (h : scPut X (pc + 3) s idx = some succs) (kk : ∀ q ∈ succs, scGoes X M0 ρ0 σ q) : scGoal X M0 ρ0 pc L st M := by
  obtain ⟨g1, g2, g3, g4, g5, g6⟩ := id hs
  unfold scPut at h
  split at h
  · rename_i v ks S e
    have h3 := hs.2.2.1
    rw [e] at h3
    split at h
    · rename_i f hf
      have hf1 : pvFd X.2.2.2.2.1.1.cls idx = some f := by
        unfold pvFd
        rw [hX.1]
        exact hf
      obtain ⟨f0, fc, fj, ft, fw⟩ := f
      simp only at h
      split at h
      · rename_i hc
        rw [Bool.and_eq_true] at hc
        split at h
        · rename_i a
          obtain ⟨x, st1, e1, hx, q1⟩ := scSk_i h3
          obtain ⟨k, st2, hk, e2, q2⟩ := scSk_r q1
          subst e2
          subst e1
          obtain ⟨c1, c2, c3⟩ := scCells_ok hc.1 hk
          exact pv_putI (by have h9 := hc.2; subst h9; exact hf1) c1 c2 c3 hd (scWt_ok hs h kk q2 hk (Nat.le_refl _) (Nat.le_refl _) (hx.iv g1) (fun q hq => by cases hq; exact hx))
        · rename_i o
          split at h
          · rename_i hw
            obtain ⟨x, st1, e1, hx, q1⟩ := scSk_j h3
            obtain ⟨k, st2, hk, e2, q2⟩ := scSk_r q1
            subst e2
            subst e1
            obtain ⟨c1, c2, c3⟩ := scCells_ok hc.1 hk
            refine pv_putJ (by have h9 := hc.2; subst h9; exact hf1) c1 c2 c3 hd ?_
            have hw' := scWin_in (j := fj) (List.all_eq_true.mp hw k hk) (Nat.le_refl _) (Nat.le_refl _)
            exact scVals_ok (M := fmJ M k fj x) (st := .long x :: .ref k :: st2) ⟨g1, g2, g3, g4, g5, g6.toJ hw'⟩ h kk q2
          · cases h
        · cases h
      · cases h
    · cases h
  · cases h
theorem sc_vin {x : Int32} {e : scI} {n : Nat} (hx : e.1 ≤ x.toInt ∧ x.toInt ≤ e.2) (h0 : 0 ≤ e.1) (h1 : e.2 < n) : vp_in x n ∧ (scIx e).1 ≤ x.toNatClampNeg ∧ x.toNatClampNeg ≤ (scIx e).1 + (scIx e).2 ∧ x.toNatClampNeg < n := by
  have e1 : x.toNatClampNeg = x.toInt.toNat := rfl
  refine ⟨vp_in_iff.mpr ⟨by omega, by omega⟩, ?_⟩
  rw [e1]
  simp only [scIx]
  omega
theorem scInx_ok {T : fmT} {ks : List Nat} {kd k : Nat} {e : scI} (h : scInx T ks kd e = true) (hk : k ∈ ks) : 0 ≤ e.1 ∧ k < T.1 ∧ T.2.1 k = kd ∧ e.2 < T.2.2.1 k := by
  simp only [scInx, Bool.and_eq_true, decide_eq_true_eq] at h
  have := List.all_eq_true.mp h.2 k hk
  simp only [Bool.and_eq_true, Nat.blt_eq, Nat.beq_eq, decide_eq_true_eq] at this
  exact ⟨h.1, this.1.1, this.1.2, this.2⟩
theorem scAldI_ok (hs : scHold X M0 s σ L st M) (hd : decode X.2.2.2.2.1.2.1 pc = .ok (.iaload, 1)) (h : scAld X (pc + 1) s 0 = some succs) (kk : ∀ q ∈ succs, scGoes X M0 ρ0 σ q) : scGoal X M0 ρ0 pc L st M := by
  unfold scAld at h
  split at h
  · rename_i a ks S e
    have h3 := hs.2.2.1
    rw [e] at h3
    obtain ⟨x, st1, e1, hx, q1⟩ := scSk_i h3
    obtain ⟨k, st2, hk, e2, q2⟩ := scSk_r q1
    subst e2
    subst e1
    split at h
    · rename_i hi
      obtain ⟨i0, i1, i2, i3⟩ := scInx_ok hi hk
      obtain ⟨v1, v2, v3, v4⟩ := sc_vin (hx.iv hs.1) i0 i3
      exact pv_iald i1 i2 rfl v1 hd (scRd_ok hs h kk q2 hk v2 v3 v4)
    · cases h
  · cases h
theorem scAldB_ok (hs : scHold X M0 s σ L st M) (hd : decode X.2.2.2.2.1.2.1 pc = .ok (.baload, 1)) (h : scAld X (pc + 1) s 2 = some succs) (kk : ∀ q ∈ succs, scGoes X M0 ρ0 σ q) : scGoal X M0 ρ0 pc L st M := by
  unfold scAld at h
  split at h
  · rename_i a ks S e
    have h3 := hs.2.2.1
    rw [e] at h3
    obtain ⟨x, st1, e1, hx, q1⟩ := scSk_i h3
    obtain ⟨k, st2, hk, e2, q2⟩ := scSk_r q1
    subst e2
    subst e1
    split at h
    · rename_i hi
      obtain ⟨i0, i1, i2, i3⟩ := scInx_ok hi hk
      obtain ⟨v1, v2, v3, v4⟩ := sc_vin (hx.iv hs.1) i0 i3
      exact pv_bald i1 i2 rfl v1 hd (scRd_ok hs h kk q2 hk v2 v3 v4)
    · cases h
  · cases h
theorem scAldJ_ok (hs : scHold X M0 s σ L st M) (hd : decode X.2.2.2.2.1.2.1 pc = .ok (.laload, 1)) (h : scAld X (pc + 1) s 1 = some succs) (kk : ∀ q ∈ succs, scGoes X M0 ρ0 σ q) : scGoal X M0 ρ0 pc L st M := by
  unfold scAld at h
  split at h
  · rename_i a ks S e
    have h3 := hs.2.2.1
    rw [e] at h3
    obtain ⟨x, st1, e1, hx, q1⟩ := scSk_i h3
    obtain ⟨k, st2, hk, e2, q2⟩ := scSk_r q1
    subst e2
    subst e1
    split at h
    · rename_i hi
      obtain ⟨i0, i1, i2, i3⟩ := scInx_ok hi hk
      obtain ⟨v1, v2, v3, v4⟩ := sc_vin (hx.iv hs.1) i0 i3
      exact pv_lald i1 i2 rfl v1 hd (scVals_ok hs h kk ⟨⟨_, rfl, scq_l _⟩, q2⟩)
    · cases h
  · cases h
theorem scAstI_ok (hs : scHold X M0 s σ L st M) (hd : decode X.2.2.2.2.1.2.1 pc = .ok (.iastore, 1)) (h : scAst X (pc + 1) s 0 = some succs) (kk : ∀ q ∈ succs, scGoes X M0 ρ0 σ q) : scGoal X M0 ρ0 pc L st M := by
  unfold scAst at h
  split at h
  · rename_i v a ks S e
    have h3 := hs.2.2.1
    rw [e] at h3
    split at h
    · rename_i hi
      split at h
      · rename_i v' _
        obtain ⟨w, st0, e0, hw, q0⟩ := scSk_i h3
        obtain ⟨x, st1, e1, hx, q1⟩ := scSk_i q0
        obtain ⟨k, st2, hk, e2, q2⟩ := scSk_r q1
        subst e2
        subst e1
        subst e0
        obtain ⟨i0, i1, i2, i3⟩ := scInx_ok hi hk
        obtain ⟨v1, v2, v3, v4⟩ := sc_vin (hx.iv hs.1) i0 i3
        exact pv_iast i1 i2 rfl v1 hd (scWt_ok hs h kk q2 hk v2 v3 (hw.iv hs.1) (fun q hq => by cases hq; exact hw))
      · omega
      · omega
      · cases h
    · cases h
  · cases h
theorem scq_nar (x : Int32) : -128 ≤ (vp_nar .byte x).toInt ∧ (vp_nar .byte x).toInt ≤ 127 := by
  have e : vp_nar .byte x = x.toInt8.toInt32 := rfl
  rw [e, Int8.toInt_toInt32]
  have h1 := x.toInt8.le_toInt
  have h2 := x.toInt8.toInt_lt
  omega
theorem scAstB_ok (hs : scHold X M0 s σ L st M) (hd : decode X.2.2.2.2.1.2.1 pc = .ok (.bastore, 1)) (h : scAst X (pc + 1) s 2 = some succs) (kk : ∀ q ∈ succs, scGoes X M0 ρ0 σ q) : scGoal X M0 ρ0 pc L st M := by
  unfold scAst at h
  split at h
  · rename_i v a ks S e
    have h3 := hs.2.2.1
    rw [e] at h3
    split at h
    · rename_i hi
      split at h
      · omega
      · obtain ⟨w, st0, e0, hw, q0⟩ := scSk_i h3
        obtain ⟨x, st1, e1, hx, q1⟩ := scSk_i q0
        obtain ⟨k, st2, hk, e2, q2⟩ := scSk_r q1
        subst e2
        subst e1
        subst e0
        obtain ⟨i0, i1, i2, i3⟩ := scInx_ok hi hk
        obtain ⟨v1, v2, v3, v4⟩ := sc_vin (hx.iv hs.1) i0 i3
        exact pv_bast i1 i2 rfl v1 hd (scWt_ok hs h kk q2 hk v2 v3 (scq_nar w) (fun q hq => by cases hq))
      · omega
      · cases h
    · cases h
  · cases h
theorem scAstJ_ok (hs : scHold X M0 s σ L st M) (hd : decode X.2.2.2.2.1.2.1 pc = .ok (.lastore, 1)) (h : scAst X (pc + 1) s 1 = some succs) (kk : ∀ q ∈ succs, scGoes X M0 ρ0 σ q) : scGoal X M0 ρ0 pc L st M := by
  obtain ⟨g1, g2, g3, g4, g5, g6⟩ := id hs
  unfold scAst at h
  split at h
  · rename_i v a ks S e
    have h3 := hs.2.2.1
    rw [e] at h3
    split at h
    · rename_i hi
      split at h
      · omega
      · omega
      · split at h
        · rename_i hwn
          obtain ⟨w, st0, e0, hw, q0⟩ := scSk_j h3
          obtain ⟨x, st1, e1, hx, q1⟩ := scSk_i q0
          obtain ⟨k, st2, hk, e2, q2⟩ := scSk_r q1
          subst e2
          subst e1
          subst e0
          obtain ⟨i0, i1, i2, i3⟩ := scInx_ok hi hk
          obtain ⟨v1, v2, v3, v4⟩ := sc_vin (hx.iv hs.1) i0 i3
          refine pv_last i1 i2 rfl v1 hd ?_
          have hw' := scWin_in (List.all_eq_true.mp hwn k hk) v2 v3
          exact scVals_ok (M := fmJ M k x.toNatClampNeg w) (st := .long w :: .int x :: .ref k :: st2) ⟨g1, g2, g3, g4, g5, g6.toJ hw'⟩ h kk q2
        · cases h
      · cases h
    · cases h
  · cases h
theorem scAald_ok (hs : scHold X M0 s σ L st M) (hd : decode X.2.2.2.2.1.2.1 pc = .ok (.aaload, 1)) (h : scAald X (pc + 1) s = some succs) (kk : ∀ q ∈ succs, scGoes X M0 ρ0 σ q) : scGoal X M0 ρ0 pc L st M := by
  unfold scAald at h
  split at h
  · rename_i a ks S e
    have h3 := hs.2.2.1
    rw [e] at h3
    obtain ⟨x, st1, e1, hx, q1⟩ := scSk_i h3
    obtain ⟨k, st2, hk, e2, q2⟩ := scSk_r q1
    subst e2
    subst e1
    split at h
    · rename_i hi
      simp only [Bool.and_eq_true, decide_eq_true_eq] at hi
      obtain ⟨hi, hb⟩ := hi
      have hi2 := List.all_eq_true.mp hi.2 k hk
      simp only [Bool.and_eq_true, decide_eq_true_eq, Nat.blt_eq, Nat.ble_eq] at hi2
      obtain ⟨⟨⟨i1, i2⟩, i3⟩, i4⟩ := hi2
      obtain ⟨v1, v2, v3, v4⟩ := sc_vin (hx.iv hs.1) hi.1 i4
      have hb' : X.1.2.2.2 k x.toNatClampNeg < 1000 := by
        have := List.all_eq_true.mp hb k hk
        have := List.all_eq_true.mp this (x.toNatClampNeg - (scIx (scIv s.1 a)).1) (List.mem_range.mpr (by omega))
        rw [Nat.add_sub_cancel' v2] at this
        simpa using this
      refine pv_aald i1 (by omega) rfl v1 rfl hb' hd (scVals_ok hs h kk ⟨⟨_, List.mem_flatMap.mpr ⟨k, hk, List.mem_map.mpr ⟨x.toNatClampNeg - (scIx (scIv s.1 a)).1, List.mem_range.mpr (by omega), ?_⟩⟩, rfl⟩, q2⟩)
      rw [Nat.add_sub_cancel' v2]
    · cases h
  · cases h
theorem scAlen_ok (hs : scHold X M0 s σ L st M) (hd : decode X.2.2.2.2.1.2.1 pc = .ok (.arraylength, 1)) (h : scAlen X (pc + 1) s = some succs) (kk : ∀ q ∈ succs, scGoes X M0 ρ0 σ q) : scGoal X M0 ρ0 pc L st M := by
  unfold scAlen at h
  split at h
  · rename_i k' ks S e
    have h3 := hs.2.2.1
    rw [e] at h3
    obtain ⟨k, st1, hk, e1, q1⟩ := scSk_r h3
    subst e1
    split at h
    · rename_i hi
      rw [Bool.and_eq_true, Nat.blt_eq] at hi
      have hi2 := List.all_eq_true.mp hi.1 k hk
      simp only [Bool.and_eq_true, Nat.blt_eq, Nat.ble_eq, Nat.beq_eq] at hi2
      obtain ⟨⟨i1, i2⟩, i3⟩ := hi2
      have hv : (Int32.ofNat (X.1.2.2.1 k)).toInt = (X.1.2.2.1 k' : Int) := by
        rw [i3]
        exact Int32.toInt_ofNat_of_lt (by omega)
      have hS : scSk σ (.inl (none, (X.1.2.2.1 k' : Int)) :: S) (.int (Int32.ofNat (X.1.2.2.1 k)) :: st1) := ⟨⟨_, rfl, hv⟩, q1⟩
      rcases (show X.1.2.1 k = 0 ∨ X.1.2.1 k = 1 by omega) with e0 | e0
      · exact pv_alenI i1 e0 rfl rfl hd (scVals_ok hs h kk hS)
      · exact pv_alenJ i1 e0 rfl rfl hd (scVals_ok hs h kk hS)
    · cases h
  · cases h
theorem scMmx_ok {idx i0 : Nat} {b : Bool} (hm : pvMm X.2.2.2.2.1.1.cls idx = some (i0, b)) (hs : scHold X M0 s σ L st M) (hd : decode X.2.2.2.2.1.2.1 pc = .ok (.invokestatic idx, 3)) (h : scMmx X (pc + 3) s b = some succs) (kk : ∀ q ∈ succs, scGoes X M0 ρ0 σ q) : scGoal X M0 ρ0 pc L st M := by
  unfold scMmx at h
  split at h
  · rename_i z x S e
    have h3 := hs.2.2.1
    rw [e] at h3
    obtain ⟨vz, st1, e1, hz, q1⟩ := scSk_i h3
    obtain ⟨vx, st2, e2, hx, q2⟩ := scSk_i q1
    subst e2
    subst e1
    split at h
    · rename_i hc
      simp only [Bool.and_eq_true, Nat.ble_eq] at hc
      refine pv_mm hm hc.1 (by unfold pvCat; rw [scSk_cat q2]; exact hc.2) hd (scPush_ok hs h kk q2 ?_)
      have ix := hx.iv hs.1
      have iz := hz.iv hs.1
      have bd : (if b then scMax (scIv s.1 x) (scIv s.1 z) else scMin (scIv s.1 x) (scIv s.1 z)).1 ≤ (pvMx b vx vz).toInt ∧ (pvMx b vx vz).toInt ≤ (if b then scMax (scIv s.1 x) (scIv s.1 z) else scMin (scIv s.1 x) (scIv s.1 z)).2 := by
        cases b with
        | true =>
          simp only [if_true, pvMx, scMax]
          by_cases hle : vx.toInt ≤ vz.toInt
          · simp only [hle, if_true]
            constructor <;> split <;> omega
          · simp only [hle, if_false]
            constructor <;> split <;> omega
        | false =>
          simp only [Bool.false_eq_true, if_false, pvMx, scMin]
          by_cases hle : vx.toInt ≤ vz.toInt
          · simp only [hle, if_true]
            constructor <;> split <;> omega
          · simp only [hle, if_false]
            constructor <;> split <;> omega
      exact scNk.new hs.1 bd.1 bd.2
    · cases h
  · cases h
end ScMem
end
-- P 10gi
section
-- THE CHECKER: copies, constants, switches, ends, calls
section ScMore
variable {X : scX} {M0 : fmM} {ρ0 σ : List Int} {s : scS} {L : List (Option Value)} {st : List Value} {M : fmM} {pc pc' : Nat} {succs : List (Nat × scS)}
theorem scq_cpy (f g : Nat → Int32) (n j : Nat) : va_cpy f g 0 0 n j = if j < n then f j else g j := by
  simp [va_cpy]
theorem scCpy_ok {idx : Nat} (hm9 : pvMm X.2.2.2.2.1.1.cls idx = none) (hc9 : pvCp X.2.2.2.2.1.1.cls idx = true) (hs : scHold X M0 s σ L st M) (hd : decode X.2.2.2.2.1.2.1 pc = .ok (.invokestatic idx, 3)) (h : scCpy X (pc + 3) s = some succs) (kk : ∀ q ∈ succs, scGoes X M0 ρ0 σ q) : scGoal X M0 ρ0 pc L st M := by
  obtain ⟨g1, g2, g3, g4, g5, g6⟩ := id hs
  unfold scCpy at h
  split at h
  · rename_i n dp ks1 sp ks0 S e
    have h3 := g3
    rw [e] at h3
    obtain ⟨vn, st1, e1, hn, q1⟩ := scSk_i h3
    obtain ⟨vd, st2, e2, hdp, q2⟩ := scSk_i q1
    obtain ⟨k1, st3, hk1, e3, q3⟩ := scSk_r q2
    obtain ⟨vs, st4, e4, hsp, q4⟩ := scSk_i q3
    obtain ⟨k0, st5, hk0, e5, q5⟩ := scSk_r q4
    subst e5
    subst e4
    subst e3
    subst e2
    subst e1
    split at h
    · rename_i hc
      simp only [Bool.and_eq_true, decide_eq_true_eq, Nat.ble_eq] at hc
      obtain ⟨⟨⟨⟨⟨⟨c1, c2⟩, c3⟩, c4⟩, c5⟩, c6⟩, c7⟩ := hc
      have in1 := hn.iv g1
      have id1 := hdp.iv g1
      have is1 := hsp.iv g1
      rw [c1] at id1
      rw [c2] at is1
      simp only at id1 is1
      have c6' := List.all_eq_true.mp c6 k0 hk0
      simp only [Bool.and_eq_true, Nat.blt_eq, Nat.ble_eq, Nat.beq_eq] at c6'
      have c7' := List.all_eq_true.mp c7 k1 hk1
      simp only [Bool.and_eq_true, Nat.blt_eq, Nat.ble_eq, Nat.beq_eq] at c7'
      obtain ⟨⟨⟨⟨⟨a1, a2⟩, a3⟩, a4⟩, a6⟩, a5⟩ := c7'
      have a5' := List.all_eq_true.mp a5 k0 hk0
      have ed : vd.toNatClampNeg = 0 := by show vd.toInt.toNat = 0; omega
      have es : vs.toNatClampNeg = 0 := by show vs.toInt.toNat = 0; omega
      have en : vn.toNatClampNeg = (scIv s.1 n).1.toNat := by show vn.toInt.toNat = _; omega
      have z0 : (0 : Int32).toInt = 0 := by decide
      refine pv_copy (k0 := k0) (k1 := k1) hm9 hc9 c6'.1.1 c6'.1.2 rfl a1 a2 rfl (by omega) (by omega) (by omega) (by rw [es, en]; omega) (by rw [ed, en]; omega) (by unfold pvCat; rw [scSk_cat q5]; omega) hd ?_
      rw [ed, es, en]
      generalize hm : (scIv s.1 n).1.toNat = m at *
      have hm1 : 1 ≤ m := by omega
      refine scOne_ok h kk (τ := []) ?_
      rw [List.append_nil]
      refine ⟨g1, g2, q5, ?_, ?_, ?_⟩
      · intro f hf
        obtain ⟨hf, hnf⟩ := List.mem_filter.mp hf
        have hF := g4 f hf
        by_cases e1 : f.1.1 = k1
        · by_cases e2 : f.1.2 < m
          · exfalso
            have : (ks1.contains f.1.1 && Nat.ble 0 f.1.2 && Nat.ble f.1.2 (0 + (m - 1))) = true := by
              rw [e1]
              simp only [Bool.and_eq_true, Nat.ble_eq, List.contains_iff_mem]
              exact ⟨⟨hk1, Nat.zero_le _⟩, by omega⟩
            rw [this] at hnf
            cases hnf
          · rw [e1] at hF ⊢
            rw [fmA_s, scq_cpy, if_neg e2]
            exact hF
        · rw [fmA_k _ _ e1]
          exact hF
      · refine ⟨?_, scFree_ok a6 g5.2 (fun k' j' hn => ?_)⟩
        rotate_left
        · by_cases e1 : k' = k1
          · subst e1
            rw [fmA_s, scq_cpy, if_neg (fun h9 => hn ⟨rfl, Nat.zero_le _, by omega⟩)]
          · rw [fmA_k _ _ e1]
        intro k' j' hj'
        by_cases e1 : k' = k1
        · subst e1
          rw [fmA_s, scq_cpy]
          split
          · rename_i hjm
            exact scSub_ok (List.all_eq_true.mp a5' j' (List.mem_range.mpr hjm)) (g5.1 k0 j' (by omega))
          · exact g5.1 k' j' hj'
        · rw [fmA_k _ _ e1]
          exact g5.1 k' j' hj'
      · intro k' j' hn'
        have hF := g6 k' j' hn'
        refine ⟨?_, hF.2⟩
        rw [← hF.1]
        by_cases e1 : k' = k1
        · subst e1
          rw [fmA_s, scq_cpy]
          split
          · rename_i hjm
            rw [scWin_in a4 (Nat.zero_le _) (by omega)] at hn'
            cases hn'
          · rfl
        · rw [fmA_k _ _ e1]
    · cases h
  · cases h
theorem scKc_of {idx : Nat} {r : Option (Nat × (Int32 ⊕ Int64))} (hX : scXk X) (h : X.2.2.1.1.2.1.find? (fun q => Nat.beq q.1 idx) = r) : pvKc X.2.2.2.2.1.1.cls idx = r := by
  unfold pvKc
  rw [hX.1]
  exact h
theorem scLdcI_ok {idx : Nat} (hX : scXk X) (hs : scHold X M0 s σ L st M) (hd : decode X.2.2.2.2.1.2.1 pc = .ok (.ldc idx, 2)) (h : scLdc X (pc + 2) s idx 0 = some succs) (kk : ∀ q ∈ succs, scGoes X M0 ρ0 σ q) : scGoal X M0 ρ0 pc L st M := by
  unfold scLdc at h
  split at h
  · rename_i i v hf
    split at h
    · exact pv_ldc (scKc_of hX hf) hd (scVals_ok hs h kk ⟨⟨v, rfl, rfl⟩, hs.2.2.1⟩)
    · cases h
  · split at h
    · rename_i ht; cases ht
    · cases h
  · rename_i hf
    split at h
    · split at h
      · rename_i q hq
        have ht : pvTx X.2.2.2.2.1.1.cls idx = some q := by
          unfold pvTx
          rw [hX.1]
          exact hq
        exact pv_ldcT (scKc_of hX hf) ht hd (scVals_ok hs h kk ⟨rfl, hs.2.2.1⟩)
      · cases h
    · cases h
theorem scLdcJ_ok {idx : Nat} (hX : scXk X) (hs : scHold X M0 s σ L st M) (hd : decode X.2.2.2.2.1.2.1 pc = .ok (.ldc2_w idx, 3)) (h : scLdc X (pc + 3) s idx 1 = some succs) (kk : ∀ q ∈ succs, scGoes X M0 ρ0 σ q) : scGoal X M0 ρ0 pc L st M := by
  unfold scLdc at h
  split at h
  · split at h
    · rename_i ht; cases ht
    · cases h
  · rename_i i v hf
    split at h
    · exact pv_ldc2 (scKc_of hX hf) hd (scVals_ok hs h kk ⟨⟨v, rfl, Int.le_refl _, Int.le_refl _⟩, hs.2.2.1⟩)
    · cases h
  · split at h
    · rename_i ht; cases ht
    · cases h
theorem scStr_ok {idx : Nat} (hX : scXk X) (hs : scHold X M0 s σ L st M) (hd : decode X.2.2.2.2.1.2.1 pc = .ok (.invokevirtual idx, 3)) (h : scStr X (pc + 3) s idx = some succs) (kk : ∀ q ∈ succs, scGoes X M0 ρ0 σ q) : scGoal X M0 ρ0 pc L st M := by
  unfold scStr at h
  split at h
  · rename_i q hf
    have hm := hX.2 q (List.mem_of_find?_eq_some hf)
    have hi := List.find?_some hf
    simp only [Bool.and_eq_true, Nat.beq_eq] at hi
    have hi := hi.1
    obtain ⟨qi, qk, qc⟩ := q
    simp only at hi
    subst hi
    split at h
    · rename_i e2
      simp only at e2
      subst e2
      obtain ⟨i0, ci, y', hq⟩ := hm
      split at h
      · rename_i t S e
        have h3 := hs.2.2.1
        rw [e] at h3
        cases st with
        | nil => exact h3.elim
        | cons w st =>
          obtain ⟨hw, q1⟩ := h3
          have hw : w = .ref (1000 + t) := hw
          subst hw
          split at h
          · rename_i hc
            simp only [Bool.and_eq_true, Nat.ble_eq, Nat.blt_eq] at hc
            exact pv_strlen hq hc.1.1 hc.1.2 (by unfold pvCat; rw [scSk_cat q1]; exact hc.2) hd (scVals_ok hs h kk ⟨⟨_, rfl, rfl⟩, q1⟩)
          · cases h
      · cases h
    · rename_i e2
      simp only at e2
      subst e2
      obtain ⟨i0, ci, y', hq⟩ := hm
      split at h
      · rename_i a t S e
        have h3 := hs.2.2.1
        rw [e] at h3
        obtain ⟨x, st1, e1, hx, q0⟩ := scSk_i h3
        cases st1 with
        | nil => exact q0.elim
        | cons w st2 =>
          obtain ⟨hw, q1⟩ := q0
          have hw : w = .ref (1000 + t) := hw
          subst hw
          subst e1
          split at h
          · rename_i hc
            simp only [Bool.and_eq_true, Nat.ble_eq, Nat.blt_eq, decide_eq_true_eq] at hc
            obtain ⟨⟨⟨⟨⟨b1, b2⟩, b3⟩, b4⟩, b5⟩, b6⟩ := hc
            have ix := hx.iv hs.1
            have ex : x.toNatClampNeg = (scIv s.1 a).1.toNat := by show x.toInt.toNat = _; omega
            refine pv_charAt hq b1 (by omega) (by omega) b2 (by unfold pvCat; rw [scSk_cat q1]; exact b3) hd (scVals_ok hs h kk ⟨⟨_, rfl, ?_⟩, q1⟩)
            rw [ex]
            exact (rfl : (chE t (scIv s.1 a).1.toNat).toInt = _)
          · cases h
      · cases h
    · cases h
  · cases h
theorem scTab_ok {dflt lo hi : Int} {offs : Array Int} {len : Nat} (hs : scHold X M0 s σ L st M) (hd : decode X.2.2.2.2.1.2.1 pc = .ok (.tableswitch dflt lo hi offs, len)) (h : scTab pc s dflt lo hi offs = some succs) (kk : ∀ q ∈ succs, scGoes X M0 ρ0 σ q) : scGoal X M0 ρ0 pc L st M := by
  obtain ⟨g1, g2, g3, g4, g5, g6⟩ := id hs
  unfold scTab at h
  split at h
  · rename_i a S e
    have h3 := g3
    rw [e] at h3
    obtain ⟨x, st1, e1, hx, q1⟩ := scSk_i h3
    subst e1
    have ix := hx.iv g1
    split at h
    · rename_i hc
      simp only [Bool.and_eq_true, decide_eq_true_eq, Nat.beq_eq] at hc
      obtain ⟨⟨c1, c2⟩, c3⟩ := hc
      cases h
      by_cases hr : x.toInt < lo ∨ hi < x.toInt
      · refine pv_table ((pc : Int) + dflt).toNat c1 ?_ hd ?_
        · simp only [fmTsw, if_pos hr]
          omega
        · refine kk (((pc : Int) + dflt).toNat, (s.1, s.2.1, S, s.2.2.2)) (List.mem_append_left _ ?_) [] L st1 M (by rw [List.append_nil]; exact ⟨g1, g2, q1, g4, g5, g6⟩)
          rw [if_neg]
          · exact List.mem_cons_self
          · simp only [Bool.and_eq_true, decide_eq_true_eq]
            omega
      · have hq : (x.toInt - lo).toNat < (hi - lo + 1).toNat := by omega
        have c3' := List.all_eq_true.mp c3 _ (List.mem_range.mpr hq)
        simp only [decide_eq_true_eq] at c3'
        refine pv_table ((pc : Int) + offs.getD (x.toInt - lo).toNat 0).toNat c1 ?_ hd ?_
        · simp only [fmTsw, if_neg hr]
          omega
        · have el : lo + ((x.toInt - lo).toNat : Int) = x.toInt := by omega
          obtain ⟨env', k1, k2⟩ := scCut_ok (lo := lo + ((x.toInt - lo).toNat : Int)) (hi := lo + ((x.toInt - lo).toNat : Int)) g1 hx (by omega) (by omega)
          refine kk (_, (env', s.2.1, S, s.2.2.2)) (List.mem_append_right _ (List.mem_flatMap.mpr ⟨_, List.mem_range.mpr hq, ?_⟩)) [] L st1 M (by rw [List.append_nil]; exact ⟨k2, g2, q1, g4, g5, g6⟩)
          rw [k1]
          exact List.mem_cons_self
    · cases h
  · cases h
theorem scOut_ok {ent : Bool} {env : List scI} {F : List scF} {kind : Nat} {e : scI} {r : fmR} (hρ : ρ0.length = X.2.2.2.2.2.2.1.length) (he : ent = true → ∃ τ, σ = ρ0 ++ τ) (g1 : scEk env σ) (g4 : scFk σ F M) (g5 : scInv X.1 X.2.1 M) (g6 : scFr (scW X) M0 M) (h : scOut X ent env F kind e = true) (hr : ∀ o : scO, o.1 = kind → scSub e o.2.1 = true → scRk o r) : scEnd X.1 X.2.1 X.2.2.2.2 ρ0 M0 r M := by
  obtain ⟨o, ho, h⟩ := List.any_eq_true.mp h
  simp only [Bool.and_eq_true, Nat.beq_eq] at h
  obtain ⟨⟨⟨⟨h1, h2⟩, h3⟩, h4⟩, h5⟩ := h
  refine ⟨⟨o, ho, hr o h1 h2, fun q hq => ?_, fun q hq => ?_⟩, g5, g6⟩
  · have h4' := List.all_eq_true.mp h4 q hq
    simp only [Bool.and_eq_true, Nat.blt_eq] at h4'
    rw [Bool.or_eq_true] at h3
    rcases h3 with h3 | h3
    · obtain ⟨τ, et⟩ := he h3
      have hl : q.1 < ρ0.length := by rw [hρ]; exact h4'.1
      have hx : σ[q.1]? = some ρ0[q.1] := by rw [et, List.getElem?_append_left hl]; exact List.getElem?_eq_getElem hl
      refine ⟨ρ0[q.1], List.getElem?_eq_getElem hl, ?_⟩
      have hle : q.1 < env.length := by rw [g1.1]; exact (List.getElem?_eq_some_iff.mp hx).1
      have hb := g1.2 q.1 env[q.1] _ (List.getElem?_eq_getElem hle) hx
      have eg : env.getD q.1 scTop = env[q.1] := by simp [List.getD, List.getElem?_eq_getElem hle]
      rw [eg] at h4'
      exact scSub_ok h4'.2 hb
    · rw [List.isEmpty_iff] at h3
      rw [h3] at hq
      cases hq
  · have h5' := List.all_eq_true.mp h5 q hq
    simp only [Bool.and_eq_true, Nat.blt_eq] at h5'
    cases hf : scFact F q.1.1 q.1.2 with
    | none =>
      rw [hf] at h5'
      exact scSub_ok h5'.2 (g5.1 _ _ h5'.1)
    | some f =>
      rw [hf] at h5'
      have h6 := List.find?_some hf
      simp only [Bool.and_eq_true, beq_iff_eq] at h6
      have h7 := g4 f (List.mem_of_find?_eq_some hf)
      rw [h6.1, h6.2] at h7
      exact scSub_ok h5'.2 (h7.iv g1)
theorem scCutR_ok {B : scB} {ρ : List Int} (hB : scBk σ B ρ) : ∀ {qs : List (Nat × scI)} {env : List scI}, scEk env σ → (∀ q ∈ qs, ∃ x, ρ[q.1]? = some x ∧ q.2.1 ≤ x ∧ x ≤ q.2.2) → ∃ env', scCutR B qs env = some env' ∧ scEk env' σ
  | [], env, h, _ => ⟨env, rfl, h⟩
  | q :: qs, env, h, hq => by
    obtain ⟨x, hx, h1, h2⟩ := hq q List.mem_cons_self
    simp only [scCutR]
    split
    · rename_i b hb
      have hb' : B[q.1]? = some (some b) := by
        simp only [List.getD] at hb
        cases hL : B[q.1]? with
        | none => rw [hL] at hb; simp at hb
        | some w => rw [hL] at hb; simp at hb; rw [hb]
      obtain ⟨x', hx', hv⟩ := hB _ _ hb'
      rw [hx] at hx'
      cases hx'
      obtain ⟨e1, k1, k2⟩ := scCut_ok h hv h1 h2
      obtain ⟨e2, k3, k4⟩ := scCutR_ok hB (qs := qs) k2 (fun q' hq' => hq q' (List.mem_cons_of_mem _ hq'))
      exact ⟨e2, by rw [k1]; exact k3, k4⟩
    · exact scCutR_ok hB h (fun q' hq' => hq q' (List.mem_cons_of_mem _ hq'))
theorem scMem_ok {M' : fmM} : ∀ {qs : List ((Nat × Nat) × scI)} {env : List scI} {F : List scF} {σ : List Int}, scEk env σ → scFk σ F M' → (∀ q ∈ qs, q.2.1 ≤ (M'.1 q.1.1 q.1.2).toInt ∧ (M'.1 q.1.1 q.1.2).toInt ≤ q.2.2) → ∃ (r : List scI × List scF) (τ : List Int), scMem qs env F = some r ∧ scEk r.1 (σ ++ τ) ∧ scFk (σ ++ τ) r.2 M'
  | [], env, F, σ, h, hF, _ => ⟨(env, F), [], rfl, by simpa using h, by simpa using hF⟩
  | q :: qs, env, F, σ, h, hF, hq => by
    have h1 := hq q List.mem_cons_self
    simp only [scMem]
    split
    · rename_i f hf
      have h6 := List.find?_some hf
      simp only [Bool.and_eq_true, beq_iff_eq] at h6
      have h7 := hF f (List.mem_of_find?_eq_some hf)
      rw [h6.1, h6.2] at h7
      obtain ⟨e1, k1, k2⟩ := scCut_ok h h7 h1.1 h1.2
      obtain ⟨r, τ, k3, k4, k5⟩ := scMem_ok (qs := qs) k2 hF (fun q' hq' => hq q' (List.mem_cons_of_mem _ hq'))
      exact ⟨r, τ, by rw [k1]; exact k3, k4, k5⟩
    · have hF' : scFk (σ ++ [(M'.1 q.1.1 q.1.2).toInt]) ((q.1, (some env.length, 0)) :: F) M' := by
        intro f hf
        rcases List.mem_cons.mp hf with e | hf
        · subst e
          exact scEv.new h
        · exact (hF f hf).mono
      obtain ⟨r, τ, k3, k4, k5⟩ := scMem_ok (qs := qs) (h.push h1.1 h1.2) hF' (fun q' hq' => hq q' (List.mem_cons_of_mem _ hq'))
      exact ⟨r, _ ++ τ, k3, by rw [← List.append_assoc]; exact k4, by rw [← List.append_assoc]; exact k5⟩
end ScMore
end
-- P 10gj
section
-- THE CHECKER: calls, and all instructions
def scEndP (X : scX) (ent : Bool) (pc : Nat) (s : scS) (S : List scV) (o : scO) (q : List scI × List scF) (succs : List (Nat × scS)) : Prop := match o.1 with
  | 0 => (pc, ((q.1, s.2.1, S, q.2) : scS)) ∈ succs
  | 1 => (pc, ((q.1 ++ [o.2.1], s.2.1, .inl (some q.1.length, 0) :: S, q.2) : scS)) ∈ succs
  | 2 => (pc, ((q.1, s.2.1, .inr (.inl o.2.1) :: S, q.2) : scS)) ∈ succs
  | 4 => scOut X ent q.1 q.2 4 o.2.1 = true
  | 5 => scOut X ent q.1 q.2 5 o.2.1 = true
  | _ => False
theorem scEndP.more {X : scX} {ent : Bool} {pc : Nat} {s : scS} {S : List scV} {o : scO} {q : List scI × List scF} {a b : List (Nat × scS)} (h : scEndP X ent pc s S o q a) (hm : ∀ x ∈ a, x ∈ b) : scEndP X ent pc s S o q b := by
  unfold scEndP at h ⊢
  split at h
  · exact hm _ h
  · exact hm _ h
  · exact hm _ h
  · exact h
  · exact h
  · exact h
theorem scEnds_ok {X : scX} {ent : Bool} {pc : Nat} {s : scS} {S : List scV} {W : List (Nat × Nat × Nat)} {r : List scI × List scF × scB} {o : scO} {q : List scI × List scF} (hq : scAft W r o = some q) : ∀ {os : List scO} {succs : List (Nat × scS)}, o ∈ os → scEnds X ent pc s S W r os = some succs → scEndP X ent pc s S o q succs
  | o' :: os, succs, hm, h => by
    simp only [scEnds] at h
    rcases List.mem_cons.mp hm with e | hm
    · subst e
      rw [hq] at h
      simp only at h
      unfold scEndP
      split at h
      · rename_i e0
        obtain ⟨l, _, hl⟩ := Option.map_eq_some_iff.mp h
        subst hl
        rw [e0]
        exact List.mem_cons_self
      · rename_i e0
        obtain ⟨l, _, hl⟩ := Option.map_eq_some_iff.mp h
        subst hl
        rw [e0]
        exact List.mem_cons_self
      · rename_i e0
        obtain ⟨l, _, hl⟩ := Option.map_eq_some_iff.mp h
        subst hl
        rw [e0]
        exact List.mem_cons_self
      · rename_i e0
        rw [e0]
        split at h
        · rename_i hx
          exact hx
        · cases h
      · rename_i e0
        rw [e0]
        split at h
        · rename_i hx
          exact hx
        · cases h
      · cases h
    · split at h
      · exact scEnds_ok hq hm h
      · split at h
        · obtain ⟨l, h1, hl⟩ := Option.map_eq_some_iff.mp h
          subst hl
          exact (scEnds_ok hq hm h1).more (fun x hx => List.mem_cons_of_mem _ hx)
        · obtain ⟨l, h1, hl⟩ := Option.map_eq_some_iff.mp h
          subst hl
          exact (scEnds_ok hq hm h1).more (fun x hx => List.mem_cons_of_mem _ hx)
        · obtain ⟨l, h1, hl⟩ := Option.map_eq_some_iff.mp h
          subst hl
          exact (scEnds_ok hq hm h1).more (fun x hx => List.mem_cons_of_mem _ hx)
        · split at h
          · exact scEnds_ok hq hm h
          · cases h
        · split at h
          · exact scEnds_ok hq hm h
          · cases h
        · cases h
theorem scFr.trans {W W' : List (Nat × Nat × Nat)} {M0 M M' : fmM} (h : scFr W M0 M) (h' : scFr W' M M') (hw : W'.all (fun w => scWin W w.1 w.2.1 (w.2.2 - 1) && Nat.blt 0 w.2.2) = true) : scFr W M0 M' := by
  intro k j hn
  have hn' : scIn W' k j = false := by
    cases hb : scIn W' k j with
    | false => rfl
    | true =>
      obtain ⟨w, hw1, hw2⟩ := List.any_eq_true.mp hb
      have hw3 := List.all_eq_true.mp hw w hw1
      simp only [Bool.and_eq_true, beq_iff_eq, Nat.ble_eq, Nat.blt_eq] at hw2 hw3
      rw [hw2.1.1] at hw3
      rw [scWin_in (j := j) hw3.1 hw2.1.2 (by omega)] at hn
      cases hn
  have h1 := h k j hn
  have h2 := h' k j hn'
  exact ⟨h2.1.trans h1.1, h2.2.trans h1.2⟩
theorem scKlW_ok {W : List (Nat × Nat × Nat)} {σ : List Int} {F : List scF} {M M' : fmM} (hF : scFk σ F M) (h : scFr W M M') : scFk σ (scKlW W F) M' := by
  intro f hf
  obtain ⟨hf, hn⟩ := List.mem_filter.mp hf
  have hn' : scIn W f.1.1 f.1.2 = false := by simpa using hn
  rw [(h _ _ hn').1]
  exact hF f hf
theorem scSk_take {σ : List Int} : ∀ (n : Nat) {S : List scV} {st : List Value}, scSk σ S st → scSk σ (S.take n) (st.take n) ∧ scSk σ (S.drop n) (st.drop n)
  | 0, S, st, h => ⟨by simp [scSk], by simpa using h⟩
  | n + 1, [], [], _ => ⟨by simp [scSk], by simp [scSk]⟩
  | n + 1, v :: S, w :: st, h => by
    have := scSk_take n h.2
    exact ⟨⟨h.1, this.1⟩, this.2⟩
  | _ + 1, [], _ :: _, h => h.elim
  | _ + 1, _ :: _, [], h => h.elim
theorem scSk_app {σ : List Int} : ∀ {S : List scV} {st : List Value} {S' : List scV} {st' : List Value}, scSk σ S st → scSk σ S' st' → scSk σ (S ++ S') (st ++ st')
  | [], [], _, _, _, h => h
  | _ :: _, _ :: _, _, _, h, h' => ⟨h.1, scSk_app h.2 h'⟩
  | [], _ :: _, _, _, h, _ => h.elim
  | _ :: _, [], _, _, h, _ => h.elim
theorem scSk_rev {σ : List Int} : ∀ {S : List scV} {st : List Value}, scSk σ S st → scSk σ S.reverse st.reverse
  | [], [], _ => trivial
  | v :: S, w :: st, h => by
    rw [List.reverse_cons, List.reverse_cons]
    exact scSk_app (scSk_rev h.2) ⟨h.1, trivial⟩
  | [], _ :: _, h => h.elim
  | _ :: _, [], h => h.elim
theorem scSk_len {σ : List Int} : ∀ {S : List scV} {st : List Value}, scSk σ S st → S.length = st.length
  | [], [], _ => rfl
  | _ :: _, _ :: _, h => by simp [scSk_len h.2]
  | [], _ :: _, h => h.elim
  | _ :: _, [], h => h.elim
section ScCall
variable {X : scX} {M0 : fmM} {ρ0 σ : List Int} {s : scS} {L : List (Option Value)} {st : List Value} {M : fmM} {pc : Nat} {succs : List (Nat × scS)} {ent : Bool}
theorem scCall_one {q : scCl} {idx kind : Nat} {r : List scI × List scF × scB} (hX : scXk X) (hρ : ρ0.length = X.2.2.2.2.2.2.1.length) (he : ent = true → ∃ τ, σ = ρ0 ++ τ) (hs : scHold X M0 s σ L st M) (hd : decode X.2.2.2.2.1.2.1 pc = .ok (if kind = 1 then .invokestatic idx else .invokevirtual idx, 3)) (hq : q ∈ X.2.2.2.1) (hi : q.1 = idx) (hk : q.2.1 = kind) (hk2 : kind = 0 ∨ kind = 1) (ht : scTry X s q = some r) (h : scEnds X ent (pc + 3) s (s.2.2.1.drop q.2.2.2.2.2.2.1.length) q.2.2.2.2.2.2.2.2.2 r q.2.2.2.2.2.2.2.2.1 = some succs) (kk : ∀ q ∈ succs, scGoes X M0 ρ0 σ q) : scGoal X M0 ρ0 pc L st M := by
  obtain ⟨g1, g2, g3, g4, g5, g6⟩ := id hs
  have hcq := hX.2 q hq
  unfold scTry at ht
  split at ht
  · rename_i hb
    simp only [Bool.and_eq_true, Nat.ble_eq] at hb
    obtain ⟨⟨⟨⟨b1, b2⟩, b3⟩, b4⟩, b5⟩ := hb
    generalize hm : q.2.2.2.2.2.2.1.length = m at *
    obtain ⟨t1, t2⟩ := scSk_take m g3
    have t3 : scSk σ (scArgs s.2.2.1 m) (st.take m).reverse := scSk_rev t1
    obtain ⟨env, F, B⟩ := r
    obtain ⟨τ, i1, i2, i3, i4, i5, i6, i7⟩ := scInc_ok (s := (s.1, [], scArgs s.2.2.1 m, s.2.2.2)) (L := []) g1 scLk.nil t3 g4 g5 ht
    have hH : scH X.1 X.2.1 q.2.2.2 := by
      unfold scClk at hcq
      rw [hk] at hcq
      rcases hk2 with e | e <;> subst e <;> exact hcq.2
    have hG := hH M _ _ i4 i6 i7 g5
    have hB := scBk.of i3
    have after : pvGood X.1 q.2.2.2.2.1 q.2.2.2.1 (st.take m).reverse M (pvThen X.1 X.2.2.2.2.2.1 X.2.2.2.2.1 (pc + 3) L (st.drop m) (scEnd X.1 X.2.1 X.2.2.2.2 ρ0 M0)) := by
      refine hG.imp (fun o M' hE => ?_)
      obtain ⟨⟨o', ho, hr, hrf, hme⟩, hI', hF'⟩ := hE
      obtain ⟨env1, k1, k2⟩ := scCutR_ok hB (qs := o'.2.2.2.1) i1 hrf
      obtain ⟨p, τ2, k3, k4, k5⟩ := scMem_ok (qs := o'.2.2.2.2) k2 (scKlW_ok i2 hF') hme
      have hp : scAft q.2.2.2.2.2.2.2.2.2 (env, F, B) o' = some p := by
        simp only [scAft, k1, Option.bind_some]
        exact k3
      have hP := scEnds_ok (X := X) (ent := ent) (pc := pc + 3) (s := s) (S := s.2.2.1.drop m) hp ho h
      have hFr := g6.trans hF' b4
      unfold scEndP at hP
      unfold scRk at hr
      rw [List.append_assoc] at k4 k5
      split at hP
      · rename_i e0
        rw [e0] at hr
        simp only at hr
        subst hr
        exact kk _ hP (τ ++ τ2) L (st.drop m) M' ⟨k4, g2.mono, t2.mono, k5, hI', hFr⟩
      · rename_i e0
        rw [e0] at hr
        obtain ⟨n, en, n1, n2⟩ := hr
        subst en
        refine kk _ hP (τ ++ τ2 ++ [n.toInt]) L (.int n :: st.drop m) M' ?_
        have := k4.push n1 n2
        rw [← List.append_assoc]
        exact ⟨this, g2.mono.mono, ⟨⟨n, rfl, scEv.new k4⟩, t2.mono.mono⟩, k5.mono, hI', hFr⟩
      · rename_i e0
        rw [e0] at hr
        obtain ⟨n, en, n1, n2⟩ := hr
        subst en
        exact kk _ hP (τ ++ τ2) L (.long n :: st.drop m) M' ⟨k4, g2.mono, ⟨⟨n, rfl, n1, n2⟩, t2.mono⟩, k5, hI', hFr⟩
      · rename_i e0
        rw [e0] at hr
        simp only at hr
        subst hr
        refine scOut_ok (σ := σ ++ (τ ++ τ2)) hρ (fun h => ?_) k4 k5 hI' hFr hP (fun o2 h1 _ => ?_)
        · obtain ⟨τ3, e3⟩ := he h
          exact ⟨τ3 ++ (τ ++ τ2), by rw [e3, List.append_assoc]⟩
        · unfold scRk
          rw [h1]
          exact (rfl : (Sum.inr fmIAE : fmR) = Sum.inr fmIAE)
      · rename_i e0
        rw [e0] at hr
        simp only at hr
        subst hr
        refine scOut_ok (σ := σ ++ (τ ++ τ2)) hρ (fun h => ?_) k4 k5 hI' hFr hP (fun o2 h1 _ => ?_)
        · obtain ⟨τ3, e3⟩ := he h
          exact ⟨τ3 ++ (τ ++ τ2), by rw [e3, List.append_assoc]⟩
        · unfold scRk
          rw [h1]
          exact (rfl : (Sum.inr fmNSE : fmR) = Sum.inr fmNSE)
      · exact hP.elim
    have hcat : pvCat (st.drop m) ≤ 8 := by unfold pvCat; rw [scSk_cat t2]; exact b3
    have hlen : m ≤ st.length := by rw [← scSk_len g3]; exact b1
    have hstk : st = (st.take m).reverse.reverse ++ st.drop m := by rw [List.reverse_reverse, List.take_append_drop]
    have hal : (st.take m).reverse.length = m := by simp [hlen]
    subst hi
    rcases hk2 with e | e
    · subst e
      unfold scClk at hcq
      rw [hk] at hcq b5
      simp only [Nat.zero_ne_one, if_false] at hd
      obtain ⟨⟨n, i0, hc1, hc2⟩, -⟩ := hcq
      have hmn : m = n + 1 := by rw [← hm]; exact hc2
      simp only [scRecv] at b5
      cases hA : (st.take m).reverse with
      | nil => rw [hA] at hal; simp at hal; omega
      | cons w As =>
        rw [hA] at t3 after hstk hal
        split at b5
        · rename_i ks tl hS
          rw [hS] at t3
          obtain ⟨k, st', hk', e1, q1⟩ := scSk_r t3
          injection e1 with e1 e2
          subst e1
          subst e2
          have b6 := List.all_eq_true.mp b5 k hk'
          simp only [Bool.and_eq_true, Nat.blt_eq, Nat.beq_eq] at b6
          refine pv_invV (As := As) hc1 b6.1 b6.2 (by simp at hal; omega) rfl (hstk.trans (by simp)) hcat b2 hd after
        · cases b5
    · subst e
      unfold scClk at hcq
      rw [hk] at hcq
      simp only [if_true] at hd
      obtain ⟨⟨hm1, hm2, hm3, i0, ci, hc1⟩, -⟩ := hcq
      rw [hm] at hc1
      exact pv_invS hm1 hm2 hm3 hc1 hal hstk hcat b2 hd after
  · cases ht
theorem scCall_ok {idx kind : Nat} (hX : scXk X) (hρ : ρ0.length = X.2.2.2.2.2.2.1.length) (he : ent = true → ∃ τ, σ = ρ0 ++ τ) (hs : scHold X M0 s σ L st M) (hd : decode X.2.2.2.2.1.2.1 pc = .ok (if kind = 1 then .invokestatic idx else .invokevirtual idx, 3)) (hk2 : kind = 0 ∨ kind = 1) (kk : ∀ q ∈ succs, scGoes X M0 ρ0 σ q) : ∀ {qs : List scCl}, (∀ q ∈ qs, q ∈ X.2.2.2.1) → scCall X ent (pc + 3) s idx kind qs = some succs → scGoal X M0 ρ0 pc L st M
  | [], _, h => by cases h
  | q :: qs, hq, h => by
    simp only [scCall] at h
    split at h
    · rename_i hb
      simp only [Bool.and_eq_true, Nat.beq_eq] at hb
      split at h
      · rename_i r hr
        exact scCall_one hX hρ he hs hd (hq q List.mem_cons_self) hb.1 hb.2 hk2 hr h kk
      · exact scCall_ok hX hρ he hs hd hk2 kk (fun q' hq' => hq q' (List.mem_cons_of_mem _ hq')) h
    · exact scCall_ok hX hρ he hs hd hk2 kk (fun q' hq' => hq q' (List.mem_cons_of_mem _ hq')) h
end ScCall
end
-- P 10gk
section
-- THE CHECKER: any instruction
section ScAll
variable {X : scX} {M0 : fmM} {ρ0 σ : List Int} {s : scS} {L : List (Option Value)} {st : List Value} {M : fmM} {pc : Nat} {succs : List (Nat × scS)} {ent : Bool}
theorem scq_i32 {n : Int} (h1 : -2147483648 ≤ n) (h2 : n ≤ 2147483647) : (Int32.ofInt n).toInt = n := by
  rw [Int32.toInt_ofInt]
  show n.bmod 4294967296 = n
  exact Int.bmod_eq_of_le (by omega) (by omega)
theorem scq_i8 {n : Int} (h1 : -128 ≤ n) (h2 : n ≤ 127) : ((Int8.ofInt n).toInt32).toInt = n := by
  rw [Int8.toInt_toInt32, Int8.toInt_ofInt]
  show n.bmod 256 = n
  exact Int.bmod_eq_of_le (by omega) (by omega)
theorem scq_i16 {n : Int} (h1 : -32768 ≤ n) (h2 : n ≤ 32767) : ((Int16.ofInt n).toInt32).toInt = n := by
  rw [Int16.toInt_toInt32, Int16.toInt_ofInt]
  show n.bmod 65536 = n
  exact Int.bmod_eq_of_le (by omega) (by omega)
theorem scq_01 {v : Int32} (h : ((0, 1) : scI).1 ≤ v.toInt ∧ v.toInt ≤ ((0, 1) : scI).2) : v = 0 ∨ v = 1 := by
  have h1 : (0 : Int) ≤ v.toInt := h.1
  have h2 : v.toInt ≤ 1 := h.2
  rcases (show v.toInt = 0 ∨ v.toInt = 1 by omega) with h | h
  · exact Or.inl (Int32.toInt_inj.mp (by rw [h]; rfl))
  · exact Or.inr (Int32.toInt_inj.mp (by rw [h]; rfl))
theorem scq_fin2 (n : Fin 2) : ((n.val : Int), (n.val : Int)).1 ≤ (Int64.ofNat n.val).toInt ∧ (Int64.ofNat n.val).toInt ≤ ((n.val : Int), (n.val : Int)).2 := by
  match n with
  | 0 => decide
  | 1 => decide
theorem scLmul_ok {e f : scI} {x z : Int64} (hx : e.1 ≤ x.toInt ∧ x.toInt ≤ e.2) (hz : f.1 ≤ z.toInt ∧ z.toInt ≤ f.2) : (scLmul e f).1 ≤ (x * z).toInt ∧ (x * z).toInt ≤ (scLmul e f).2 := by
  unfold scLmul
  split
  · rename_i hf
    simp only [Bool.and_eq_true, decide_eq_true_eq] at hf
    obtain ⟨⟨h1, h2⟩, h3⟩ := hf
    have l1 : e.1 * f.1 ≤ x.toInt * z.toInt := Int.mul_le_mul hx.1 hz.1 h2 (by omega)
    have l2 : x.toInt * z.toInt ≤ e.2 * f.2 := Int.mul_le_mul hx.2 hz.2 (by omega) (by omega)
    have l0 : 0 ≤ e.1 * f.1 := Int.mul_nonneg h1 h2
    have eq : (x * z).toInt = x.toInt * z.toInt := by
      rw [Int64.toInt_mul]
      exact Int.bmod_eq_of_le (by omega) (by omega)
    rw [eq]
    exact ⟨l1, l2⟩
  · exact scq_l _
theorem scOff_in {k dflt : Int} : ∀ (ps : List (Int × Int)), Op.lookupswitch.offset ps dflt k ∈ dflt :: ps.map (fun q => q.2)
  | [] => List.mem_cons_self
  | (a, o) :: r => by
    rw [Op.lookupswitch.offset_cons]
    split
    · exact List.mem_cons_of_mem _ List.mem_cons_self
    · rcases List.mem_cons.mp (scOff_in (k := k) (dflt := dflt) r) with h | h
      · rw [h]
        exact List.mem_cons_self
      · exact List.mem_cons_of_mem _ (List.mem_cons_of_mem _ h)
theorem scLook_ok {dflt : Int} {ps : Array (Int × Int)} {len : Nat} (hs : scHold X M0 s σ L st M) (hd : decode X.2.2.2.2.1.2.1 pc = .ok (.lookupswitch dflt ps, len)) (h : scLook pc s dflt ps = some succs) (kk : ∀ q ∈ succs, scGoes X M0 ρ0 σ q) : scGoal X M0 ρ0 pc L st M := by
  obtain ⟨g1, g2, g3, g4, g5, g6⟩ := id hs
  unfold scLook at h
  split at h
  · rename_i a S e
    have h3 := g3
    rw [e] at h3
    obtain ⟨x, st1, e1, hx, q1⟩ := scSk_i h3
    subst e1
    split at h
    · rename_i hc
      rw [Bool.and_eq_true] at hc
      cases h
      have hm := scOff_in (k := x.toInt) (dflt := dflt) ps.toList
      have h0 := List.all_eq_true.mp hc.2 _ hm
      simp only [decide_eq_true_eq] at h0
      refine pv_lookup ((pc : Int) + Op.lookupswitch.offset ps.toList dflt x.toInt).toNat hc.1 (by omega) hd ?_
      refine kk (_, (s.1, s.2.1, S, s.2.2.2)) (List.mem_map.mpr ⟨_, hm, rfl⟩) [] L st1 M (by rw [List.append_nil]; exact ⟨g1, g2, q1, g4, g5, g6⟩)
    · cases h
  · cases h
theorem scThr_ok {idx : Nat} (hρ : ρ0.length = X.2.2.2.2.2.2.1.length) (he : ent = true → ∃ τ, σ = ρ0 ++ τ) (hs : scHold X M0 s σ L st M) (hd : decode X.2.2.2.2.1.2.1 pc = .ok (.new idx, 3)) (h : scThr X ent pc s idx = some succs) : scGoal X M0 ρ0 pc L st M := by
  obtain ⟨g1, g2, g3, g4, g5, g6⟩ := id hs
  unfold scThr at h
  split at h
  · rename_i e
    have h3 := g3
    rw [e] at h3
    have e2 := scSk_0 h3
    subst e2
    split at h
    · rename_i hb
      simp only [Bool.and_eq_true, Nat.beq_eq, decide_eq_true_eq] at hb
      obtain ⟨⟨b1, b2⟩, b3⟩ := hb
      split at h
      · rename_i hc
        simp only [Bool.and_eq_true, Nat.beq_eq, decide_eq_true_eq] at hc
        obtain ⟨⟨⟨c1, c2⟩, c3⟩, c4⟩ := hc
        subst c1
        refine pv_thrI b1 hd b2 c2 c3 b3 (scOut_ok hρ he g1 g4 g5 g6 c4 (fun o h1 _ => ?_))
        unfold scRk
        rw [h1]
        exact (rfl : (Sum.inr fmIAE : fmR) = Sum.inr fmIAE)
      · split at h
        · rename_i hc
          simp only [Bool.and_eq_true, Nat.beq_eq, decide_eq_true_eq] at hc
          obtain ⟨⟨⟨c1, c2⟩, c3⟩, c4⟩ := hc
          subst c1
          refine pv_thrN b1 hd b2 c2 c3 b3 (scOut_ok hρ he g1 g4 g5 g6 c4 (fun o h1 _ => ?_))
          unfold scRk
          rw [h1]
          exact (rfl : (Sum.inr fmNSE : fmR) = Sum.inr fmNSE)
        · cases h
    · cases h
  · cases h
theorem scStp_ok {i : Instr} {len : Nat} (hX : scXk X) (hρ : ρ0.length = X.2.2.2.2.2.2.1.length) (he : ent = true → ∃ τ, σ = ρ0 ++ τ) (hs : scHold X M0 s σ L st M) (hd0 : decode X.2.2.2.2.1.2.1 pc = .ok (i, len)) (hlen : (pvSw i || Nat.beq len (scLen i)) = true) (h : scStp X ent pc i s = some succs) (kk : ∀ q ∈ succs, scGoes X M0 ρ0 σ q) : scGoal X M0 ρ0 pc L st M := by
  obtain ⟨g1, g2, g3, g4, g5, g6⟩ := id hs
  cases hsw : pvSw i with
  | true =>
    cases i with
    | tableswitch a b c d => exact scTab_ok hs hd0 h kk
    | lookupswitch a b => exact scLook_ok hs hd0 h kk
    | _ => cases hsw
  | false =>
  have hlen : len = scLen i := by
    rw [hsw, Bool.false_or, Nat.beq_eq] at hlen
    exact hlen
  subst hlen
  cases i with
  | iconst n =>
    simp only [scStp] at h
    split at h
    · rename_i hc
      simp only [Bool.and_eq_true, decide_eq_true_eq] at hc
      exact pv_iconst rfl hd0 (scVals_ok hs h kk ⟨⟨_, rfl, scq_i32 (by omega) (by omega)⟩, g3⟩)
    · cases h
  | bipush n =>
    simp only [scStp] at h
    split at h
    · rename_i hc
      simp only [Bool.and_eq_true, decide_eq_true_eq] at hc
      exact pv_bipush rfl hd0 (scVals_ok hs h kk ⟨⟨_, rfl, scq_i8 hc.1 hc.2⟩, g3⟩)
    · cases h
  | sipush n =>
    simp only [scStp] at h
    split at h
    · rename_i hc
      simp only [Bool.and_eq_true, decide_eq_true_eq] at hc
      exact pv_sipush rfl hd0 (scVals_ok hs h kk ⟨⟨_, rfl, scq_i16 hc.1 hc.2⟩, g3⟩)
    · cases h
  | lconst n => exact pv_lconst rfl hd0 (scVals_ok hs h kk ⟨⟨_, rfl, scq_fin2 n⟩, g3⟩)
  | iload_n n => exact scLoad_ok hs h kk (fun _ x hx k => pv_iload_n hx hd0 k) (fun e => by cases e) (fun e => by cases e)
  | iload n => exact scLoad_ok hs h kk (fun _ x hx k => pv_iload hx hd0 k) (fun e => by cases e) (fun e => by cases e)
  | lload_n n => exact scLoad_ok hs h kk (fun e => by cases e) (fun _ x hx k => pv_lload_n hx hd0 k) (fun e => by cases e)
  | lload n => exact scLoad_ok hs h kk (fun e => by cases e) (fun _ x hx k => pv_lload hx hd0 k) (fun e => by cases e)
  | aload_n n => exact scLoad_ok hs h kk (fun e => by cases e) (fun e => by cases e) (fun _ x hx k => pv_aload_n hx hd0 k)
  | aload n => exact scLoad_ok hs h kk (fun e => by cases e) (fun e => by cases e) (fun _ x hx k => pv_aload hx hd0 k)
  | istore_n n => exact scStor_ok hs h kk (fun _ hn x st' k => pv_stI_n hn hd0 k) (fun e => by cases e) (fun e => by cases e)
  | istore n => exact scStor_ok hs h kk (fun _ hn x st' k => pv_stI hn hd0 k) (fun e => by cases e) (fun e => by cases e)
  | lstore_n n => exact scStor_ok hs h kk (fun e => by cases e) (fun _ hn x st' k => pv_stJ_n hn hd0 k) (fun e => by cases e)
  | lstore n => exact scStor_ok hs h kk (fun e => by cases e) (fun _ hn x st' k => pv_stJ hn hd0 k) (fun e => by cases e)
  | astore_n n => exact scStor_ok hs h kk (fun e => by cases e) (fun e => by cases e) (fun _ hn x st' k => pv_stR_n hn hd0 k)
  | astore n => exact scStor_ok hs h kk (fun e => by cases e) (fun e => by cases e) (fun _ hn x st' k => pv_stR hn hd0 k)
  | iinc n v =>
    simp only [scStp] at h
    split at h
    · rename_i a e
      split at h
      · rename_i hc
        simp only [Bool.and_eq_true, decide_eq_true_eq, Nat.blt_eq] at hc
        have hl := g2.2 n
        rw [e] at hl
        cases hL : L.getD n none with
        | none => rw [hL] at hl; exact hl.elim
        | some w =>
          rw [hL] at hl
          obtain ⟨x, e1, hx⟩ := hl
          subst e1
          have hv : scEv σ (none, v) (Int32.ofInt v).toInt := scq_i32 (by omega) (by omega)
          obtain ⟨τ, q1, q2⟩ := scAdd_ok g1 hx hv
          refine pv_stinc hL hc.1.1.2 hd0 (scOne_ok h kk (τ := τ) ?_)
          exact ⟨q1, (g2.kill hc.1.1.1).mono.set n (v := some (.inl (scAdd s.1 a (none, v)).1)) (w := some (.int (x + Int32.ofInt v))) ⟨_, rfl, q2⟩, g3.mono, g4.mono, g5, g6⟩
      · cases h
    · cases h
  | iadd => exact scBin_ok hs h kk (fun ha hb => scAdd_ok g1 ha hb) (fun x z st => pv_iadd hd0)
  | isub => exact scBin_ok hs h kk (fun ha hb => scSubt_ok g1 ha hb) (fun x z st => pv_isub hd0)
  | imul => exact scBin_ok hs h kk (fun ha hb => scMul_ok g1 ha hb) (fun x z st => pv_imul hd0)
  | idiv =>
    simp only [scStp] at h
    split at h
    · rename_i b a S e
      split at h
      · rename_i hc
        simp only [decide_eq_true_eq] at hc
        have h3 := g3
        rw [e] at h3
        obtain ⟨z, st1, e1, hz, q1⟩ := scSk_i h3
        obtain ⟨x, st2, e2, hx, q2⟩ := scSk_i q1
        subst e2
        subst e1
        exact pv_idiv (sc_nz g1 hz hc) hd0 (scPush_ok hs h kk q2 (scDiv_ok g1 hx hz hc))
      · split at h
        · rename_i hc
          simp only [decide_eq_true_eq] at hc
          have h3 := g3
          rw [e] at h3
          obtain ⟨z, st1, e1, hz, q1⟩ := scSk_i h3
          obtain ⟨x, st2, e2, hx, q2⟩ := scSk_i q1
          subst e2
          subst e1
          have iz := hz.iv g1
          refine pv_idiv (fun e0 => ?_) hd0 (scPush_ok hs h kk q2 (scNk.top _ g1))
          rw [e0] at iz
          have z0 : (0 : Int32).toInt = 0 := by decide
          omega
        · cases h
    · cases h
  | irem =>
    simp only [scStp] at h
    split at h
    · rename_i b a S e
      split at h
      · rename_i hc
        simp only [decide_eq_true_eq] at hc
        have h3 := g3
        rw [e] at h3
        obtain ⟨z, st1, e1, hz, q1⟩ := scSk_i h3
        obtain ⟨x, st2, e2, hx, q2⟩ := scSk_i q1
        subst e2
        subst e1
        exact pv_irem (sc_nz g1 hz hc) hd0 (scPush_ok hs h kk q2 (scNk.top _ g1))
      · cases h
    · cases h
  | iand => exact scBin_ok hs h kk (fun ha hb => scAnd_ok g1 ha hb) (fun x z st => pv_iand hd0)
  | ior => exact scBinT_ok hs h kk (fun x z st => pv_ior hd0)
  | ixor => exact scBinT_ok hs h kk (fun x z st => pv_ixor hd0)
  | ishl => exact scBinT_ok (op := fun x z => x <<< (z &&& 31)) hs h kk (fun x z st => pv_ishl hd0)
  | ishr => exact scBinT_ok (op := fun x z => x >>> (z &&& 31)) hs h kk (fun x z st => pv_ishr hd0)
  | iushr => exact scBinT_ok (op := fun x z => (x.toUInt32 >>> (z.toUInt32 &&& Int32.toUInt32 31)).toInt32) hs h kk (fun x z st => pv_iushr hd0)
  | ineg =>
    simp only [scStp] at h
    split at h
    · rename_i a S e
      have h3 := g3
      rw [e] at h3
      obtain ⟨x, st1, e1, hx, q1⟩ := scSk_i h3
      subst e1
      refine pv_ineg hd0 (scPush_ok hs h kk q1 ?_)
      rw [show -x = 0 - x from (Int32.zero_sub x).symm]
      exact scSubt_ok g1 (show scEv σ (none, 0) (0 : Int32).toInt from rfl) hx
    · cases h
  | i2b =>
    simp only [scStp] at h
    split at h
    · rename_i a S e
      have h3 := g3
      rw [e] at h3
      obtain ⟨x, st1, e1, hx, q1⟩ := scSk_i h3
      subst e1
      exact pv_i2b hd0 (scPush_ok hs h kk q1 (scNk.top _ g1))
    · cases h
  | i2l =>
    simp only [scStp] at h
    split at h
    · rename_i a S e
      have h3 := g3
      rw [e] at h3
      obtain ⟨x, st1, e1, hx, q1⟩ := scSk_i h3
      subst e1
      refine pv_i2l hd0 (scVals_ok hs h kk ⟨⟨_, rfl, ?_⟩, q1⟩)
      rw [Int32.toInt_toInt64]
      exact hx.iv g1
    · cases h
  | l2i =>
    simp only [scStp] at h
    split at h
    · rename_i a S e
      have h3 := g3
      rw [e] at h3
      obtain ⟨x, st1, e1, hx, q1⟩ := scSk_j h3
      subst e1
      exact pv_l2i hd0 (scPush_ok hs h kk q1 (scNk.top _ g1))
    · cases h
  | ladd => exact scLong2_ok hs h kk (fun x z st => pv_ladd hd0)
  | lsub => exact scLong2_ok hs h kk (fun x z st => pv_lsub hd0)
  | lmul =>
    simp only [scStp] at h
    split at h
    · rename_i f e S es
      have h3 := g3
      rw [es] at h3
      obtain ⟨z, st1, e1, hz, q1⟩ := scSk_j h3
      obtain ⟨x, st2, e2, hx, q2⟩ := scSk_j q1
      subst e2
      subst e1
      exact pv_lmul hd0 (scVals_ok hs h kk ⟨⟨_, rfl, scLmul_ok hx hz⟩, q2⟩)
    · cases h
  | land => exact scLong2_ok hs h kk (fun x z st => pv_land hd0)
  | lor => exact scLong2_ok hs h kk (fun x z st => pv_lor hd0)
  | lxor => exact scLong2_ok hs h kk (fun x z st => pv_lxor hd0)
  | ldiv =>
    simp only [scStp] at h
    split at h
    · rename_i f a S e
      split at h
      · rename_i hc
        simp only [decide_eq_true_eq] at hc
        have h3 := g3
        rw [e] at h3
        obtain ⟨z, st1, e1, hz, q1⟩ := scSk_j h3
        obtain ⟨x, st2, e2, hx, q2⟩ := scSk_j q1
        subst e2
        subst e1
        refine pv_ldiv (fun e0 => ?_) hd0 (scVals_ok hs h kk ⟨⟨_, rfl, scq_l _⟩, q2⟩)
        rw [e0] at hz
        have z0 : (0 : Int64).toInt = 0 := by decide
        omega
      · cases h
    · cases h
  | lshl =>
    simp only [scStp] at h
    split at h
    · rename_i b a S e
      have h3 := g3
      rw [e] at h3
      obtain ⟨z, st1, e1, hz, q1⟩ := scSk_i h3
      obtain ⟨x, st2, e2, hx, q2⟩ := scSk_j q1
      subst e2
      subst e1
      exact pv_lshl hd0 (scVals_ok hs h kk ⟨⟨_, rfl, scq_l _⟩, q2⟩)
    · cases h
  | lshr =>
    simp only [scStp] at h
    split at h
    · rename_i b a S e
      have h3 := g3
      rw [e] at h3
      obtain ⟨z, st1, e1, hz, q1⟩ := scSk_i h3
      obtain ⟨x, st2, e2, hx, q2⟩ := scSk_j q1
      subst e2
      subst e1
      exact pv_lshr hd0 (scVals_ok hs h kk ⟨⟨_, rfl, scq_l _⟩, q2⟩)
    · cases h
  | lcmp =>
    simp only [scStp] at h
    split at h
    · rename_i b a S e
      have h3 := g3
      rw [e] at h3
      obtain ⟨z, st1, e1, hz, q1⟩ := scSk_j h3
      obtain ⟨x, st2, e2, hx, q2⟩ := scSk_j q1
      subst e2
      subst e1
      exact pv_lcmp hd0 (scPush_ok hs h kk q2 (scNk.top _ g1))
    · cases h
  | dup =>
    simp only [scStp] at h
    split at h
    · rename_i a S e
      have h3 := g3
      rw [e] at h3
      obtain ⟨x, st1, e1, hx, q1⟩ := scSk_i h3
      subst e1
      exact pv_dup rfl hd0 (scVals_ok hs h kk ⟨⟨x, rfl, hx⟩, ⟨x, rfl, hx⟩, q1⟩)
    · rename_i a S e
      have h3 := g3
      rw [e] at h3
      obtain ⟨x, st1, e1, hx, q1⟩ := scSk_q h3
      subst e1
      exact pv_dup rfl hd0 (scVals_ok hs h kk ⟨hx, hx, q1⟩)
    · cases h
  | dup2 =>
    simp only [scStp] at h
    split at h
    · rename_i a r S e
      have h3 := g3
      rw [e] at h3
      obtain ⟨x, st1, e1, hx, q1⟩ := scSk_i h3
      obtain ⟨w, st2, e2, hw, q2⟩ := scSk_q q1
      subst e2
      subst e1
      exact pv_dup2 rfl rfl hd0 (scVals_ok hs h kk ⟨⟨x, rfl, hx⟩, hw, ⟨x, rfl, hx⟩, hw, q2⟩)
    · cases h
  | pop =>
    simp only [scStp] at h
    split at h
    · rename_i a S e
      have h3 := g3
      rw [e] at h3
      obtain ⟨x, st1, e1, hx, q1⟩ := scSk_i h3
      subst e1
      exact pv_pop rfl hd0 (scVals_ok hs h kk q1)
    · rename_i a S e
      have h3 := g3
      rw [e] at h3
      obtain ⟨x, st1, e1, hx, q1⟩ := scSk_q h3
      subst e1
      exact pv_pop rfl hd0 (scVals_ok hs h kk q1)
    · cases h
  | goto off =>
    simp only [scStp] at h
    split at h
    · rename_i hc
      simp only [decide_eq_true_eq] at hc
      refine pv_goto ((pc : Int) + off).toNat (by omega) hd0 (scOne_ok h kk (τ := []) ?_)
      rw [List.append_nil]
      exact hs
    · cases h
  | ifCond c off =>
    simp only [scStp] at h
    split at h
    · rename_i a S e
      have h3 := g3
      rw [e] at h3
      obtain ⟨x, st1, e1, hx, q1⟩ := scSk_i h3
      subst e1
      obtain ⟨⟨tgt, ht, k1⟩, k2⟩ := sc_br hs h kk q1 hx (show scEv σ (none, 0) 0 from rfl)
      exact pv_ifc c ht hd0 k1 k2
    · cases h
  | if_icmp c off =>
    simp only [scStp] at h
    split at h
    · rename_i b a S e
      have h3 := g3
      rw [e] at h3
      obtain ⟨z, st1, e1, hz, q1⟩ := scSk_i h3
      obtain ⟨x, st2, e2, hx, q2⟩ := scSk_i q1
      subst e2
      subst e1
      obtain ⟨⟨tgt, ht, k1⟩, k2⟩ := sc_br hs h kk q2 hx hz
      exact pv_icmp c ht hd0 k1 k2
    · cases h
  | getfield idx => exact scGet_ok hX hs hd0 h kk
  | putfield idx => exact scPut_ok hX hs hd0 h kk
  | iaload => exact scAldI_ok hs hd0 h kk
  | laload => exact scAldJ_ok hs hd0 h kk
  | baload => exact scAldB_ok hs hd0 h kk
  | iastore => exact scAstI_ok hs hd0 h kk
  | lastore => exact scAstJ_ok hs hd0 h kk
  | bastore => exact scAstB_ok hs hd0 h kk
  | aaload => exact scAald_ok hs hd0 h kk
  | arraylength => exact scAlen_ok hs hd0 h kk
  | ldc idx => exact scLdcI_ok hX hs hd0 h kk
  | ldc_w idx =>
    simp only [scStp] at h
    split at h
    · rename_i j v hf
      exact pv_ldcw (scKc_of hX hf) hd0 (scVals_ok hs h kk ⟨⟨v, rfl, rfl⟩, g3⟩)
    · cases h
  | ldc2_w idx => exact scLdcJ_ok hX hs hd0 h kk
  | invokevirtual idx =>
    simp only [scStp] at h
    split at h
    · rename_i r hr
      cases h
      exact scCall_ok (kind := 0) hX hρ he hs hd0 (Or.inl rfl) kk (fun _ h => h) hr
    · exact scStr_ok hX hs hd0 h kk
  | invokestatic idx =>
    simp only [scStp, scStat] at h
    split at h
    · rename_i q hf
      obtain ⟨q1, q2⟩ := q
      have hm : pvMm X.2.2.2.2.1.1.cls idx = some (q1, q2) := by
        unfold pvMm
        rw [hX.1]
        exact hf
      exact scMmx_ok hm hs hd0 h kk
    · rename_i hf
      have hm : pvMm X.2.2.2.2.1.1.cls idx = none := by
        unfold pvMm
        rw [hX.1]
        exact hf
      split at h
      · rename_i hc
        have hc9 : pvCp X.2.2.2.2.1.1.cls idx = true := by
          unfold pvCp
          rw [hX.1]
          exact hc
        exact scCpy_ok hm hc9 hs hd0 h kk
      · rename_i hc
        have hc9 : pvCp X.2.2.2.2.1.1.cls idx = false := by
          unfold pvCp
          rw [hX.1]
          exact Bool.eq_false_iff.mpr hc
        split at h
        · rename_i hl
          have hl9 : ∃ i0 b, pvMl X.2.2.2.2.1.1.cls idx = some (i0, b) := by
            unfold pvMl
            rw [hX.1]
            cases hq : X.2.2.1.1.2.2.2.2.find? (fun q => Nat.beq q.1 idx) with
            | none =>
              rw [List.find?_eq_none] at hq
              obtain ⟨q, hq1, e⟩ := List.any_eq_true.mp hl
              exact absurd e (hq q hq1)
            | some q => exact ⟨q.1, q.2, rfl⟩
          obtain ⟨i0, b, hl9⟩ := hl9
          unfold scLl at h
          split at h
          · rename_i o2 o1 S e
            have h3 := g3
            rw [e] at h3
            obtain ⟨z, st1, e1, hz, q1⟩ := scSk_j h3
            obtain ⟨x, st2, e2, hx, q2⟩ := scSk_j q1
            subst e2
            subst e1
            split at h
            · rename_i hc2
              simp only [Bool.and_eq_true, Nat.ble_eq] at hc2
              exact pv_ml hm hc9 hl9 hc2.1 (by unfold pvCat; rw [scSk_cat q2]; exact hc2.2) hd0 (scVals_ok hs h kk ⟨⟨_, rfl, scq_l _⟩, q2⟩)
            · cases h
          · cases h
        · exact scCall_ok (kind := 1) hX hρ he hs hd0 (Or.inr rfl) kk (fun _ h => h) h
  | ireturn =>
    simp only [scStp] at h
    split at h
    · rename_i a e
      have h3 := g3
      rw [e] at h3
      obtain ⟨x, st1, e1, hx, q1⟩ := scSk_i h3
      have e2 := scSk_0 q1
      subst e2
      subst e1
      have hr : ∀ o : scO, o.1 = 1 → scSub (scIv s.1 a) o.2.1 = true → scRk o (.inl (some (.int x))) := by
        intro o h1 h2
        unfold scRk
        rw [h1]
        exact ⟨x, rfl, (scSub_ok h2 (hx.iv g1)).1, (scSub_ok h2 (hx.iv g1)).2⟩
      split at h
      · rename_i hy
        split at h
        · rename_i ho
          exact pv_ireturn hy hd0 (scOut_ok hρ he g1 g4 g5 g6 ho hr)
        · cases h
      · rename_i hy
        split at h
        · rename_i ho
          rw [Bool.and_eq_true] at ho
          have hb := scSub_ok ho.2 (hx.iv g1)
          exact pv_zreturn hy (scq_01 hb) hd0 (scOut_ok hρ he g1 g4 g5 g6 ho.1 hr)
        · cases h
      · cases h
    · cases h
  | lreturn =>
    simp only [scStp] at h
    split at h
    · rename_i a e
      have h3 := g3
      rw [e] at h3
      obtain ⟨x, st1, e1, hx, q1⟩ := scSk_j h3
      have e2 := scSk_0 q1
      subst e2
      subst e1
      split at h
      · rename_i hy
        split at h
        · rename_i ho
          refine pv_lreturn hy hd0 (scOut_ok hρ he g1 g4 g5 g6 ho (fun o h1 h2 => ?_))
          unfold scRk
          rw [h1]
          exact ⟨x, rfl, (scSub_ok h2 hx).1, (scSub_ok h2 hx).2⟩
        · cases h
      · cases h
    · cases h
  | return_ =>
    simp only [scStp] at h
    split at h
    · rename_i e
      have h3 := g3
      rw [e] at h3
      have e2 := scSk_0 h3
      subst e2
      split at h
      · rename_i hy
        split at h
        · rename_i ho
          refine pv_return hy hd0 (scOut_ok hρ he g1 g4 g5 g6 ho (fun o h1 _ => ?_))
          unfold scRk
          rw [h1]
          exact (rfl : (Sum.inl none : fmR) = Sum.inl none)
        · cases h
      · cases h
    · cases h
  | tableswitch a b c d => cases hsw
  | lookupswitch a b => cases hsw
  | new idx => exact scThr_ok hρ he hs hd0 h
  | _ => cases h
end ScAll
end
-- P 10gl
section
-- THE CHECKER: a whole method
abbrev scN : Type := Nat × scS × scK
abbrev scD : Type := List (Nat × Instr × Nat)
def scSeek (pc : Nat) : scD → Option (Instr × Nat × scD)
  | [] => none
  | q :: r => if Nat.beq q.1 pc then some (q.2.1, q.2.2, r) else scSeek pc r
def scFind (dl rest : scD) (pc : Nat) : Option (Instr × Nat × scD) := match rest with
  | q :: r => if Nat.beq q.1 pc then some (q.2.1, q.2.2, r) else scSeek pc dl
  | [] => scSeek pc dl
theorem scSeek_ok {dl : scD} {pc : Nat} {i : Instr} {len : Nat} {r : scD} : ∀ {l : scD}, (∀ q ∈ l, q ∈ dl) → scSeek pc l = some (i, len, r) → (pc, i, len) ∈ dl ∧ ∀ q ∈ r, q ∈ dl
  | [], _, h => by cases h
  | q :: l, hl, h => by
    simp only [scSeek] at h
    split at h
    · rename_i e
      rw [Nat.beq_eq] at e
      cases h
      refine ⟨?_, fun q' hq' => hl q' (List.mem_cons_of_mem _ hq')⟩
      rw [← e]
      exact hl q List.mem_cons_self
    · exact scSeek_ok (fun q' hq' => hl q' (List.mem_cons_of_mem _ hq')) h
theorem scFind_ok {dl rest : scD} {pc : Nat} {i : Instr} {len : Nat} {r : scD} (hr : ∀ q ∈ rest, q ∈ dl) (h : scFind dl rest pc = some (i, len, r)) : (pc, i, len) ∈ dl ∧ ∀ q ∈ r, q ∈ dl := by
  unfold scFind at h
  split at h
  · rename_i q l
    split at h
    · rename_i e
      rw [Nat.beq_eq] at e
      cases h
      refine ⟨?_, fun q' hq' => hr q' (List.mem_cons_of_mem _ hq')⟩
      rw [← e]
      exact hr q List.mem_cons_self
    · exact scSeek_ok (fun _ h => h) h
  · exact scSeek_ok (fun _ h => h) h
def scArr (X : scX) (nodes : List scN) (r0 : Option scK) (ih : Nat → scS → Bool) (q : Nat × scS) : Bool := if nodes.any (fun n => Nat.beq n.1 q.1) then nodes.any (fun n => Nat.beq n.1 q.1 && (match scInc X.1 X.2.1 q.2 n.2.1 with
  | some r => scLess r.1 r0 n.2.2 r.2.2
  | none => false)) else ih q.1 q.2
noncomputable def scGo (X : scX) (dl : scD) (nodes : List scN) (r0 : Option scK) (ent : Bool) (fuel : Nat) : scD → Nat → scS → Bool := Nat.rec (motive := fun _ => scD → Nat → scS → Bool) (fun _ _ _ => false) (fun _ ih rest pc s => match scFind dl rest pc with
  | none => false
  | some q => (pvSw q.1 || Nat.beq q.2.1 (scLen q.1)) && (match scStp X ent pc q.1 s with
    | none => false
    | some succs => succs.all (scArr X nodes r0 (ih q.2.2)))) fuel
theorem scRank_app {r : scK} {σ τ : List Int} (h : r.1.length ≤ σ.length) : scRank r (σ ++ τ) = scRank r σ := by
  unfold scRank
  rw [scDot_app τ h]
theorem scGo_ok {X : scX} {dl : scD} {nodes : List scN} {r0 : Option scK} {ent : Bool} {M0 : fmM} {ρ0 : List Int} {R : Int} (hX : scXk X) (hdl : fmDec X.2.2.2.2.1.2.1 dl = true) (hρ : ρ0.length = X.2.2.2.2.2.2.1.length) (IH : ∀ n ∈ nodes, ∀ (ρ : List Int) (L : List (Option Value)) (st : List Value) (M : fmM), scHold X M0 n.2.1 ρ L st M → (r0.isSome = true → scRank n.2.2 ρ < R) → scGoal X M0 ρ0 n.1 L st M) : ∀ {fuel : Nat} {rest : scD} {pc : Nat} {s : scS} {σ : List Int} {L : List (Option Value)} {st : List Value} {M : fmM}, (∀ q ∈ rest, q ∈ dl) → (ent = true → ∃ τ, σ = ρ0 ++ τ) → (∀ r, r0 = some r → r.1.length ≤ σ.length ∧ scRank r σ = R) → scHold X M0 s σ L st M → scGo X dl nodes r0 ent fuel rest pc s = true → scGoal X M0 ρ0 pc L st M
  | 0, rest, pc, s, σ, L, st, M, _, _, _, _, h => by cases h
  | fuel + 1, rest, pc, s, σ, L, st, M, hr, he, hR, hs, h => by
    change (match scFind dl rest pc with
      | none => false
      | some q => (pvSw q.1 || Nat.beq q.2.1 (scLen q.1)) && (match scStp X ent pc q.1 s with
        | none => false
        | some succs => succs.all (scArr X nodes r0 (scGo X dl nodes r0 ent fuel q.2.2)))) = true at h
    split at h
    · cases h
    · rename_i q hq
      obtain ⟨i, len, r⟩ := q
      obtain ⟨f1, f2⟩ := scFind_ok hr hq
      have hd : decode X.2.2.2.2.1.2.1 pc = .ok (i, len) := by
        have := List.all_eq_true.mp hdl _ f1
        simpa using this
      rw [Bool.and_eq_true] at h
      obtain ⟨h1, h2⟩ := h
      split at h2
      · cases h2
      · rename_i succs hsu
        refine scStp_ok hX hρ he hs hd h1 hsu (fun q hq τ L' st' M' hs' => ?_)
        have h3 := List.all_eq_true.mp h2 q hq
        have he' : ent = true → ∃ τ', σ ++ τ = ρ0 ++ τ' := fun h => by
          obtain ⟨τ', e⟩ := he h
          exact ⟨τ' ++ τ, by rw [e, List.append_assoc]⟩
        have hR' : ∀ r, r0 = some r → r.1.length ≤ (σ ++ τ).length ∧ scRank r (σ ++ τ) = R := fun r h => by
          obtain ⟨e1, e2⟩ := hR r h
          exact ⟨by rw [List.length_append]; omega, by rw [scRank_app e1]; exact e2⟩
        unfold scArr at h3
        split at h3
        · obtain ⟨n, hn, h4⟩ := List.any_eq_true.mp h3
          rw [Bool.and_eq_true, Nat.beq_eq] at h4
          obtain ⟨h5, h6⟩ := h4
          split at h6
          · rename_i p hp
            obtain ⟨env, F, B⟩ := p
            obtain ⟨k1, k2, k3, k4, k5, k6⟩ := hs'
            obtain ⟨τ2, i1, i2, i3, i4, i5, i6, i7⟩ := scInc_ok k1 k2 k3 k4 k5 hp
            rw [← h5]
            refine (IH n hn _ _ st' M' ⟨i4, i5, i6, i7, k5, k6⟩ (fun hs => ?_))
            cases r0 with
            | none => cases hs
            | some r0 =>
              obtain ⟨e1, e2⟩ := hR' r0 rfl
              have := scLess_ok i1 h6
              rw [scRank_app e1, e2] at this
              exact this
          · cases h6
        · exact scGo_ok hX hdl hρ IH f2 he' hR' hs' h3
def scLocs : List scV → List (Option scV)
  | [] => []
  | v :: vs => match v with
    | .inr (.inl o) => some (.inr (.inl o)) :: none :: scLocs vs
    | v => some v :: scLocs vs
def scEnt (X : scX) : scS := (X.2.2.2.2.2.2.1, scLocs X.2.2.2.2.2.2.2.1 ++ List.replicate (X.2.2.2.2.1.2.2.1 - (scLocs X.2.2.2.2.2.2.2.1).length) none, [], X.2.2.2.2.2.2.2.2.1)
noncomputable def scCheck (X : scX) (dl : scD) (nodes : List scN) (fuel : Nat) : Bool := nodes.all (fun n => scPos n.2.1.1 n.2.2 && scGo X dl nodes (some n.2.2) false fuel dl n.1 n.2.1) && scGo X dl nodes none true fuel dl 0 (scEnt X) && Nat.ble (scLocs X.2.2.2.2.2.2.2.1).length X.2.2.2.2.1.2.2.1
theorem scLk.app {σ : List Int} {Λ : List (Option scV)} {L : List (Option Value)} : ∀ {Λ' : List (Option scV)} {L' : List (Option Value)}, scLk σ Λ' L' → scLk σ Λ L → scLk σ (Λ' ++ Λ) (L' ++ L)
  | [], [], _, h => h
  | _ :: _, _ :: _, h', h => scLk.cons h'.tail.1 (scLk.app h'.tail.2 h)
  | [], _ :: _, h', _ => by have := h'.1; simp at this
  | _ :: _, [], h', _ => by have := h'.1; simp at this
theorem scLk.rep {σ : List Int} : ∀ (n : Nat), scLk σ (List.replicate n none) (List.replicate n none)
  | 0 => scLk.nil
  | n + 1 => scLk.cons trivial (scLk.rep n)
theorem scLocs_ok {σ : List Int} : ∀ {vs : List scV} {as : List Value}, scSk σ vs as → scLk σ (scLocs vs) (fmArgs as) ∧ (lg_sl as).length = (scLocs vs).length
  | [], [], _ => ⟨scLk.nil, rfl⟩
  | .inl a :: vs, w :: as, h => by
    obtain ⟨⟨n, e, hn⟩, h2⟩ := h
    subst e
    obtain ⟨i1, i2⟩ := scLocs_ok h2
    refine ⟨scLk.cons (v := some (.inl a)) (w := some (.int n)) ⟨n, rfl, hn⟩ i1, ?_⟩
    show (lg_sl as).length + 1 = (scLocs vs).length + 1
    rw [i2]
  | .inr (.inl a) :: vs, w :: as, h => by
    obtain ⟨⟨n, e, hn⟩, h2⟩ := h
    subst e
    obtain ⟨i1, i2⟩ := scLocs_ok h2
    refine ⟨scLk.cons (v := some (.inr (.inl a))) (w := some (.long n)) ⟨n, rfl, hn⟩ (scLk.cons trivial i1), ?_⟩
    show (lg_sl as).length + 1 + 1 = (scLocs vs).length + 1 + 1
    rw [i2]
  | .inr (.inr (.inl a)) :: vs, w :: as, h => by
    obtain ⟨⟨n, hn, e⟩, h2⟩ := h
    subst e
    obtain ⟨i1, i2⟩ := scLocs_ok h2
    refine ⟨scLk.cons (v := some (.inr (.inr (.inl a)))) (w := some (.ref n)) ⟨n, hn, rfl⟩ i1, ?_⟩
    show (lg_sl as).length + 1 = (scLocs vs).length + 1
    rw [i2]
  | .inr (.inr (.inr a)) :: vs, w :: as, h => by
    obtain ⟨e, h2⟩ := h
    have e : w = .ref (1000 + a) := e
    subst e
    obtain ⟨i1, i2⟩ := scLocs_ok h2
    refine ⟨scLk.cons (v := some (.inr (.inr (.inr a)))) (w := some (.ref (1000 + a))) rfl i1, ?_⟩
    show (lg_sl as).length + 1 = (scLocs vs).length + 1
    rw [i2]
  | [], _ :: _, h => h.elim
  | _ :: _, [], h => h.elim
theorem scCheck_ok {X : scX} {dl : scD} {nodes : List scN} {fuel : Nat} (hX : scXk X) (hdl : fmDec X.2.2.2.2.1.2.1 dl = true) (h : scCheck X dl nodes fuel = true) : scH X.1 X.2.1 X.2.2.2.2 := by
  unfold scCheck at h
  rw [Bool.and_eq_true, Bool.and_eq_true, Nat.ble_eq] at h
  obtain ⟨⟨h1, h2⟩, h3⟩ := h
  intro M σ as g1 g2 g3 g4
  have hρ : σ.length = X.2.2.2.2.2.2.1.length := g1.1.symm
  have all : ∀ (N : Nat), ∀ n ∈ nodes, ∀ (ρ : List Int) (L : List (Option Value)) (st : List Value) (M' : fmM), scHold X M n.2.1 ρ L st M' → scRank n.2.2 ρ < N → scGoal X M σ n.1 L st M' := by
    intro N
    induction N with
    | zero =>
      intro n hn ρ L st M' hs hr
      have hn1 := List.all_eq_true.mp h1 n hn
      rw [Bool.and_eq_true] at hn1
      have := (scPos_ok hs.1 hn1.1).1
      omega
    | succ N ih =>
      intro n hn ρ L st M' hs hr
      have hn1 := List.all_eq_true.mp h1 n hn
      rw [Bool.and_eq_true] at hn1
      have hp := scPos_ok hs.1 hn1.1
      refine scGo_ok (R := scRank n.2.2 ρ) hX hdl hρ (fun n' hn' ρ' L' st' M'' hs' hr' => ih n' hn' ρ' L' st' M'' hs' ?_) (fun _ h => h) (fun h => by cases h) (fun r hr2 => ?_) hs hn1.2
      · have := hr' rfl
        omega
      · cases hr2
        exact ⟨hp.2, rfl⟩
  obtain ⟨q1, q2⟩ := scLocs_ok g2
  refine pvGood_of (by rw [q2]; exact h3) ?_
  refine scGo_ok (R := 0) hX hdl hρ (fun n hn ρ L st M' hs _ => ?_) (fun _ h => h) (fun _ => ⟨[], by rw [List.append_nil]⟩) (fun r hr => by cases hr) (s := scEnt X) ⟨g1, ?_, trivial, g3, g4, fun _ _ _ => ⟨rfl, rfl⟩⟩ h2
  · refine all ((scRank n.2.2 ρ).toNat + 1) n hn ρ L st M' hs ?_
    omega
  · have e : (fmArgs as).length = (scLocs X.2.2.2.2.2.2.2.1).length := q1.1.symm
    unfold pvEnt
    rw [e]
    exact scLk.app q1 (scLk.rep _)
end
