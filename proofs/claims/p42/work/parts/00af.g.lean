-- P 10f
section
-- THE PURE MACHINE: its rows
section PvRows
variable {T : fmT} {d d' : Nat} {y y' : fmY} {pc idx n : Nat} {L : List (Option Value)} {st As : List Value} {M : fmM} {Q : fmR → fmM → Prop}
theorem pv_gd {i : Nat} {v : Value} (h : L[i]? = some (some v)) : L.getD i none = some v := by simp [List.getD, h]
theorem pvStor_I {m i : Nat} {x : Int32} (hn : i < m) (h2 : fmNo2 L i = true) : pvStor m pc i 0 L (.int x :: st) M = pvN pc (L.set i (some (.int x))) st M := by
  have h : (Nat.beq 0 0 && Nat.blt i m) = true := by simp [hn]
  simp only [pvStor, pvKill_eq h2]
  rw [if_pos h]
theorem pvStor_J {m i : Nat} {x : Int64} (hn : i + 1 < m) (h2 : fmNo2 L i = true) : pvStor m pc i 1 L (.long x :: st) M = pvN pc ((L.set i (some (.long x))).set (i + 1) none) st M := by
  have h : (Nat.beq 1 1 && Nat.blt (i + 1) m) = true := by simp [hn]
  simp only [pvStor, pvKill_eq h2]
  rw [if_pos h]
theorem pvStor_R {m i x : Nat} (hn : i < m) (h2 : fmNo2 L i = true) : pvStor m pc i 2 L (.ref x :: st) M = pvN pc (L.set i (some (.ref x))) st M := by
  have h : (Nat.beq 2 2 && Nat.blt i m) = true := by simp [hn]
  simp only [pvStor, pvKill_eq h2]
  rw [if_pos h]
theorem pv_iconst {n : Int} {v : Int32} (hv : Int32.ofInt n = v) (hdg : decode y.2.1 pc = .ok (.iconst n, 1)) (k : pvEv T d y (pc + 1) L (.int v :: st) M Q) : pvEv T d y pc L (st) M Q := by subst hv; exact pvEv.step hdg rfl rfl k
theorem pv_bipush {n : Int} {v : Int32} (hv : (Int8.ofInt n).toInt32 = v) (hdg : decode y.2.1 pc = .ok (.bipush n, 2)) (k : pvEv T d y (pc + 2) L (.int v :: st) M Q) : pvEv T d y pc L (st) M Q := by subst hv; exact pvEv.step hdg rfl rfl k
theorem pv_sipush {n : Int} {v : Int32} (hv : (Int16.ofInt n).toInt32 = v) (hdg : decode y.2.1 pc = .ok (.sipush n, 3)) (k : pvEv T d y (pc + 3) L (.int v :: st) M Q) : pvEv T d y pc L (st) M Q := by subst hv; exact pvEv.step hdg rfl rfl k
theorem pv_lconst {n : Fin 2} {v : Int64} (hv : Int64.ofNat (n : Nat) = v) (hdg : decode y.2.1 pc = .ok (.lconst n, 1)) (k : pvEv T d y (pc + 1) L (.long v :: st) M Q) : pvEv T d y pc L (st) M Q := by subst hv; exact pvEv.step hdg rfl rfl k
theorem pv_iload_n {n : Fin 4} {x : Int32} (hv : L[(n : Nat)]? = some (some (.int x))) (hdg : decode y.2.1 pc = .ok (.iload_n n, 1)) (k : pvEv T d y (pc + 1) L (.int x :: st) M Q) : pvEv T d y pc L (st) M Q := pvEv.step hdg rfl (by simp only [pvStp, pvLoad, pv_gd hv]; rfl) k
theorem pv_iload {i : Nat} {x : Int32} (hv : L[i]? = some (some (.int x))) (hdg : decode y.2.1 pc = .ok (.iload i, 2)) (k : pvEv T d y (pc + 2) L (.int x :: st) M Q) : pvEv T d y pc L (st) M Q := pvEv.step hdg rfl (by simp only [pvStp, pvLoad, pv_gd hv]; rfl) k
theorem pv_lload_n {n : Fin 4} {x : Int64} (hv : L[(n : Nat)]? = some (some (.long x))) (hdg : decode y.2.1 pc = .ok (.lload_n n, 1)) (k : pvEv T d y (pc + 1) L (.long x :: st) M Q) : pvEv T d y pc L (st) M Q := pvEv.step hdg rfl (by simp only [pvStp, pvLoad, pv_gd hv]; rfl) k
theorem pv_lload {i : Nat} {x : Int64} (hv : L[i]? = some (some (.long x))) (hdg : decode y.2.1 pc = .ok (.lload i, 2)) (k : pvEv T d y (pc + 2) L (.long x :: st) M Q) : pvEv T d y pc L (st) M Q := pvEv.step hdg rfl (by simp only [pvStp, pvLoad, pv_gd hv]; rfl) k
theorem pv_aload_n {n : Fin 4} {x : Nat} (hv : L[(n : Nat)]? = some (some (.ref x))) (hdg : decode y.2.1 pc = .ok (.aload_n n, 1)) (k : pvEv T d y (pc + 1) L (.ref x :: st) M Q) : pvEv T d y pc L (st) M Q := pvEv.step hdg rfl (by simp only [pvStp, pvLoad, pv_gd hv]; rfl) k
theorem pv_aload {i : Nat} {x : Nat} (hv : L[i]? = some (some (.ref x))) (hdg : decode y.2.1 pc = .ok (.aload i, 2)) (k : pvEv T d y (pc + 2) L (.ref x :: st) M Q) : pvEv T d y pc L (st) M Q := pvEv.step hdg rfl (by simp only [pvStp, pvLoad, pv_gd hv]; rfl) k
theorem pv_istore_n {n : Fin 4} {x : Int32} (hn : (n : Nat) < y.2.2.1) (h2 : fmNo2 L (n : Nat) = true) (hdg : decode y.2.1 pc = .ok (.istore_n n, 1)) (k : pvEv T d y (pc + 1) (L.set (n : Nat) (some (.int x))) st M Q) : pvEv T d y pc L (.int x :: st) M Q := pvEv.step hdg rfl (pvStor_I hn h2) k
theorem pv_istore {i : Nat} {x : Int32} (hn : i < y.2.2.1) (h2 : fmNo2 L i = true) (hdg : decode y.2.1 pc = .ok (.istore i, 2)) (k : pvEv T d y (pc + 2) (L.set i (some (.int x))) st M Q) : pvEv T d y pc L (.int x :: st) M Q := pvEv.step hdg rfl (pvStor_I hn h2) k
theorem pv_lstore_n {n : Fin 4} {x : Int64} (hn : (n : Nat) + 1 < y.2.2.1) (h2 : fmNo2 L (n : Nat) = true) (hdg : decode y.2.1 pc = .ok (.lstore_n n, 1)) (k : pvEv T d y (pc + 1) ((L.set (n : Nat) (some (.long x))).set ((n : Nat) + 1) none) st M Q) : pvEv T d y pc L (.long x :: st) M Q := pvEv.step hdg rfl (pvStor_J hn h2) k
theorem pv_lstore {i : Nat} {x : Int64} (hn : i + 1 < y.2.2.1) (h2 : fmNo2 L i = true) (hdg : decode y.2.1 pc = .ok (.lstore i, 2)) (k : pvEv T d y (pc + 2) ((L.set i (some (.long x))).set (i + 1) none) st M Q) : pvEv T d y pc L (.long x :: st) M Q := pvEv.step hdg rfl (pvStor_J hn h2) k
theorem pv_astore_n {n : Fin 4} {x : Nat} (hn : (n : Nat) < y.2.2.1) (h2 : fmNo2 L (n : Nat) = true) (hdg : decode y.2.1 pc = .ok (.astore_n n, 1)) (k : pvEv T d y (pc + 1) (L.set (n : Nat) (some (.ref x))) st M Q) : pvEv T d y pc L (.ref x :: st) M Q := pvEv.step hdg rfl (pvStor_R hn h2) k
theorem pv_astore {i : Nat} {x : Nat} (hn : i < y.2.2.1) (h2 : fmNo2 L i = true) (hdg : decode y.2.1 pc = .ok (.astore i, 2)) (k : pvEv T d y (pc + 2) (L.set i (some (.ref x))) st M Q) : pvEv T d y pc L (.ref x :: st) M Q := pvEv.step hdg rfl (pvStor_R hn h2) k
theorem pv_iinc {i : Nat} {n : Int} {x v : Int32} (hl : L[i]? = some (some (.int x))) (hv : x + Int32.ofInt n = v) (hn : i < y.2.2.1) (h2 : fmNo2 L i = true) (hdg : decode y.2.1 pc = .ok (.iinc i n, 3)) (k : pvEv T d y (pc + 3) (L.set i (some (.int v))) st M Q) : pvEv T d y pc L st M Q := by
  have h : Nat.blt i y.2.2.1 = true := by simp [hn]
  subst hv
  exact pvEv.step hdg rfl (by simp only [pvStp, pv_gd hl, pvKill_eq h2]; rw [if_pos h]; rfl) k
theorem pv_iadd {x z : Int32} (hdg : decode y.2.1 pc = .ok (.iadd, 1)) (k : pvEv T d y (pc + 1) L (.int (x + z) :: st) M Q) : pvEv T d y pc L (.int z :: .int x :: st) M Q := pvEv.step hdg rfl rfl k
theorem pv_isub {x z : Int32} (hdg : decode y.2.1 pc = .ok (.isub, 1)) (k : pvEv T d y (pc + 1) L (.int (x - z) :: st) M Q) : pvEv T d y pc L (.int z :: .int x :: st) M Q := pvEv.step hdg rfl rfl k
theorem pv_imul {x z : Int32} (hdg : decode y.2.1 pc = .ok (.imul, 1)) (k : pvEv T d y (pc + 1) L (.int (x * z) :: st) M Q) : pvEv T d y pc L (.int z :: .int x :: st) M Q := pvEv.step hdg rfl rfl k
theorem pv_iand {x z : Int32} (hdg : decode y.2.1 pc = .ok (.iand, 1)) (k : pvEv T d y (pc + 1) L (.int (x &&& z) :: st) M Q) : pvEv T d y pc L (.int z :: .int x :: st) M Q := pvEv.step hdg rfl rfl k
theorem pv_ior {x z : Int32} (hdg : decode y.2.1 pc = .ok (.ior, 1)) (k : pvEv T d y (pc + 1) L (.int (x ||| z) :: st) M Q) : pvEv T d y pc L (.int z :: .int x :: st) M Q := pvEv.step hdg rfl rfl k
theorem pv_ixor {x z : Int32} (hdg : decode y.2.1 pc = .ok (.ixor, 1)) (k : pvEv T d y (pc + 1) L (.int (x ^^^ z) :: st) M Q) : pvEv T d y pc L (.int z :: .int x :: st) M Q := pvEv.step hdg rfl rfl k
theorem pv_ishl {x z : Int32} (hdg : decode y.2.1 pc = .ok (.ishl, 1)) (k : pvEv T d y (pc + 1) L (.int (x <<< (z &&& 31)) :: st) M Q) : pvEv T d y pc L (.int z :: .int x :: st) M Q := pvEv.step hdg rfl rfl k
theorem pv_ishr {x z : Int32} (hdg : decode y.2.1 pc = .ok (.ishr, 1)) (k : pvEv T d y (pc + 1) L (.int (x >>> (z &&& 31)) :: st) M Q) : pvEv T d y pc L (.int z :: .int x :: st) M Q := pvEv.step hdg rfl rfl k
theorem pv_iushr {x z : Int32} (hdg : decode y.2.1 pc = .ok (.iushr, 1)) (k : pvEv T d y (pc + 1) L (.int ((x.toUInt32 >>> (z.toUInt32 &&& Int32.toUInt32 31)).toInt32) :: st) M Q) : pvEv T d y pc L (.int z :: .int x :: st) M Q := pvEv.step hdg rfl rfl k
theorem pv_ladd {x z : Int64} (hdg : decode y.2.1 pc = .ok (.ladd, 1)) (k : pvEv T d y (pc + 1) L (.long (x + z) :: st) M Q) : pvEv T d y pc L (.long z :: .long x :: st) M Q := pvEv.step hdg rfl rfl k
theorem pv_lsub {x z : Int64} (hdg : decode y.2.1 pc = .ok (.lsub, 1)) (k : pvEv T d y (pc + 1) L (.long (x - z) :: st) M Q) : pvEv T d y pc L (.long z :: .long x :: st) M Q := pvEv.step hdg rfl rfl k
theorem pv_lmul {x z : Int64} (hdg : decode y.2.1 pc = .ok (.lmul, 1)) (k : pvEv T d y (pc + 1) L (.long (x * z) :: st) M Q) : pvEv T d y pc L (.long z :: .long x :: st) M Q := pvEv.step hdg rfl rfl k
theorem pv_land {x z : Int64} (hdg : decode y.2.1 pc = .ok (.land, 1)) (k : pvEv T d y (pc + 1) L (.long (x &&& z) :: st) M Q) : pvEv T d y pc L (.long z :: .long x :: st) M Q := pvEv.step hdg rfl rfl k
theorem pv_lor {x z : Int64} (hdg : decode y.2.1 pc = .ok (.lor, 1)) (k : pvEv T d y (pc + 1) L (.long (x ||| z) :: st) M Q) : pvEv T d y pc L (.long z :: .long x :: st) M Q := pvEv.step hdg rfl rfl k
theorem pv_lxor {x z : Int64} (hdg : decode y.2.1 pc = .ok (.lxor, 1)) (k : pvEv T d y (pc + 1) L (.long (x ^^^ z) :: st) M Q) : pvEv T d y pc L (.long z :: .long x :: st) M Q := pvEv.step hdg rfl rfl k
theorem pv_lshl {x : Int64} {z : Int32} (hdg : decode y.2.1 pc = .ok (.lshl, 1)) (k : pvEv T d y (pc + 1) L (.long (x <<< (z.toInt64 &&& 63)) :: st) M Q) : pvEv T d y pc L (.int z :: .long x :: st) M Q := pvEv.step hdg rfl rfl k
theorem pv_lshr {x : Int64} {z : Int32} (hdg : decode y.2.1 pc = .ok (.lshr, 1)) (k : pvEv T d y (pc + 1) L (.long (x >>> (z.toInt64 &&& 63)) :: st) M Q) : pvEv T d y pc L (.int z :: .long x :: st) M Q := pvEv.step hdg rfl rfl k
theorem pv_ineg {x : Int32} (hdg : decode y.2.1 pc = .ok (.ineg, 1)) (k : pvEv T d y (pc + 1) L (.int (-x) :: st) M Q) : pvEv T d y pc L (.int x :: st) M Q := pvEv.step hdg rfl rfl k
theorem pv_i2l {x : Int32} (hdg : decode y.2.1 pc = .ok (.i2l, 1)) (k : pvEv T d y (pc + 1) L (.long x.toInt64 :: st) M Q) : pvEv T d y pc L (.int x :: st) M Q := pvEv.step hdg rfl rfl k
theorem pv_l2i {x : Int64} (hdg : decode y.2.1 pc = .ok (.l2i, 1)) (k : pvEv T d y (pc + 1) L (.int x.toInt32 :: st) M Q) : pvEv T d y pc L (.long x :: st) M Q := pvEv.step hdg rfl rfl k
theorem pv_i2b {x : Int32} (hdg : decode y.2.1 pc = .ok (.i2b, 1)) (k : pvEv T d y (pc + 1) L (.int x.toInt8.toInt32 :: st) M Q) : pvEv T d y pc L (.int x :: st) M Q := pvEv.step hdg rfl rfl k
theorem pv_lcmp {x z : Int64} (hdg : decode y.2.1 pc = .ok (.lcmp, 1)) (k : pvEv T d y (pc + 1) L (.int (lg_cmp x z) :: st) M Q) : pvEv T d y pc L (.long z :: .long x :: st) M Q := pvEv.step hdg rfl rfl k
theorem pv_idiv {x z : Int32} (hne : ¬ z = 0) (hdg : decode y.2.1 pc = .ok (.idiv, 1)) (k : pvEv T d y (pc + 1) L (.int (x / z) :: st) M Q) : pvEv T d y pc L (.int z :: .int x :: st) M Q := pvEv.step hdg rfl (by simp only [pvStp, if_neg hne]; rfl) k
theorem pv_irem {x z : Int32} (hne : ¬ z = 0) (hdg : decode y.2.1 pc = .ok (.irem, 1)) (k : pvEv T d y (pc + 1) L (.int (x - x / z * z) :: st) M Q) : pvEv T d y pc L (.int z :: .int x :: st) M Q := pvEv.step hdg rfl (by simp only [pvStp, if_neg hne]; rfl) k
theorem pv_ldiv {x z : Int64} (hne : ¬ z = 0) (hdg : decode y.2.1 pc = .ok (.ldiv, 1)) (k : pvEv T d y (pc + 1) L (.long (x / z) :: st) M Q) : pvEv T d y pc L (.long z :: .long x :: st) M Q := pvEv.step hdg rfl (by simp only [pvStp, if_neg hne]; rfl) k
theorem pv_lrem {x z : Int64} (hne : ¬ z = 0) (hdg : decode y.2.1 pc = .ok (.lrem, 1)) (k : pvEv T d y (pc + 1) L (.long (x - x / z * z) :: st) M Q) : pvEv T d y pc L (.long z :: .long x :: st) M Q := pvEv.step hdg rfl (by simp only [pvStp, if_neg hne]; rfl) k
theorem pv_dup {v : Value} (hc : v.category = 1) (hdg : decode y.2.1 pc = .ok (.dup, 1)) (k : pvEv T d y (pc + 1) L (v :: v :: st) M Q) : pvEv T d y pc L (v :: st) M Q := pvEv.step hdg rfl (by simp only [pvStp, if_pos hc]; rfl) k
theorem pv_pop {v : Value} (hc : v.category = 1) (hdg : decode y.2.1 pc = .ok (.pop, 1)) (k : pvEv T d y (pc + 1) L (st) M Q) : pvEv T d y pc L (v :: st) M Q := pvEv.step hdg rfl (by simp only [pvStp, if_pos hc]; rfl) k
theorem pv_dup2 {v u : Value} (hc : v.category = 1) (hc2 : u.category = 1) (hdg : decode y.2.1 pc = .ok (.dup2, 1)) (k : pvEv T d y (pc + 1) L (v :: u :: v :: u :: st) M Q) : pvEv T d y pc L (v :: u :: st) M Q := by
  have h : v.category = 1 ∧ u.category = 1 := ⟨hc, hc2⟩
  cases v with
  | long x => cases hc
  | _ => exact pvEv.step hdg rfl (by simp only [pvStp]; rw [if_pos h]; rfl) k
theorem pv_dup2L {x : Int64} (hdg : decode y.2.1 pc = .ok (.dup2, 1)) (k : pvEv T d y (pc + 1) L (.long x :: .long x :: st) M Q) : pvEv T d y pc L (.long x :: st) M Q := pvEv.step hdg rfl rfl k
theorem pv_dup_x1 {v u : Value} (hc : v.category = 1) (hc2 : u.category = 1) (hdg : decode y.2.1 pc = .ok (.dup_x1, 1)) (k : pvEv T d y (pc + 1) L (v :: u :: v :: st) M Q) : pvEv T d y pc L (v :: u :: st) M Q := by
  have h : v.category = 1 ∧ u.category = 1 := ⟨hc, hc2⟩
  exact pvEv.step hdg rfl (by simp only [pvStp]; rw [if_pos h]; rfl) k
theorem pv_icmp (c : scCo) {x z : Int32} {off : Int} {tgt : Nat} (ht : (pc : Int) + off = (tgt : Int)) (hdg : decode y.2.1 pc = .ok (.if_icmp c off, 3)) (kt : scRel c x.toInt z.toInt → pvEv T d y tgt L st M Q) (kf : scRel (scNeg c) x.toInt z.toInt → pvEv T d y (pc + 3) L st M Q) : pvEv T d y pc L (.int z :: .int x :: st) M Q := by
  have h : decide (0 ≤ (pc : Int) + off) = true := by simp only [decide_eq_true_eq]; omega
  have et : ((pc : Int) + off).toNat = tgt := by omega
  cases hb : pvRel c x.toInt z.toInt with
  | true => exact pvEv.step hdg rfl (by simp only [pvStp, pvBr]; rw [if_pos h, if_pos hb, et]; rfl) (kt (pvRel_t hb))
  | false => exact pvEv.step hdg rfl (by simp only [pvStp, pvBr]; rw [if_pos h, if_neg (by rw [hb]; exact Bool.false_ne_true)]; rfl) (kf (pvRel_f hb))
theorem pv_ifc (c : scCo) {x : Int32} {off : Int} {tgt : Nat} (ht : (pc : Int) + off = (tgt : Int)) (hdg : decode y.2.1 pc = .ok (.ifCond c off, 3)) (kt : scRel c x.toInt 0 → pvEv T d y tgt L st M Q) (kf : scRel (scNeg c) x.toInt 0 → pvEv T d y (pc + 3) L st M Q) : pvEv T d y pc L (.int x :: st) M Q := by
  have h : decide (0 ≤ (pc : Int) + off) = true := by simp only [decide_eq_true_eq]; omega
  have et : ((pc : Int) + off).toNat = tgt := by omega
  cases hb : pvRel c x.toInt 0 with
  | true => exact pvEv.step hdg rfl (by simp only [pvStp, pvBr]; rw [if_pos h, if_pos hb, et]; rfl) (kt (pvRel_t hb))
  | false => exact pvEv.step hdg rfl (by simp only [pvStp, pvBr]; rw [if_pos h, if_neg (by rw [hb]; exact Bool.false_ne_true)]; rfl) (kf (pvRel_f hb))
theorem pv_z0 : (0 : Int32).toInt = 0 := by decide
theorem pv_icmp_eq {x z : Int32} {off : Int} (tgt : Nat) (ht : (pc : Int) + off = (tgt : Int)) (hdg : decode y.2.1 pc = .ok (.if_icmp .eq off, 3)) (kt : x = z → pvEv T d y tgt L st M Q) (kf : ¬ (x = z) → pvEv T d y (pc + 3) L st M Q) : pvEv T d y pc L (.int z :: .int x :: st) M Q := pv_icmp .eq ht hdg (fun h => kt (scq_eq.mpr h)) (fun h => kf (fun e => h (scq_eq.mp e)))
theorem pv_icmp_ne {x z : Int32} {off : Int} (tgt : Nat) (ht : (pc : Int) + off = (tgt : Int)) (hdg : decode y.2.1 pc = .ok (.if_icmp .ne off, 3)) (kt : ¬ x = z → pvEv T d y tgt L st M Q) (kf : x = z → pvEv T d y (pc + 3) L st M Q) : pvEv T d y pc L (.int z :: .int x :: st) M Q := pv_icmp .ne ht hdg (fun h => kt (fun e => h (scq_eq.mp e))) (fun h => kf (scq_eq.mpr h))
theorem pv_icmp_lt {x z : Int32} {off : Int} (tgt : Nat) (ht : (pc : Int) + off = (tgt : Int)) (hdg : decode y.2.1 pc = .ok (.if_icmp .lt off, 3)) (kt : x < z → pvEv T d y tgt L st M Q) (kf : ¬ (x < z) → pvEv T d y (pc + 3) L st M Q) : pvEv T d y pc L (.int z :: .int x :: st) M Q := pv_icmp .lt ht hdg (fun h => kt (sc_lt.mpr h)) (fun h => kf (fun e => by have h : z.toInt ≤ x.toInt := h; rw [sc_lt] at e; omega))
theorem pv_icmp_ge {x z : Int32} {off : Int} (tgt : Nat) (ht : (pc : Int) + off = (tgt : Int)) (hdg : decode y.2.1 pc = .ok (.if_icmp .ge off, 3)) (kt : z ≤ x → pvEv T d y tgt L st M Q) (kf : ¬ (z ≤ x) → pvEv T d y (pc + 3) L st M Q) : pvEv T d y pc L (.int z :: .int x :: st) M Q := pv_icmp .ge ht hdg (fun h => kt (sc_le.mpr h)) (fun h => kf (fun e => by have h : x.toInt < z.toInt := h; rw [sc_le] at e; omega))
theorem pv_icmp_gt {x z : Int32} {off : Int} (tgt : Nat) (ht : (pc : Int) + off = (tgt : Int)) (hdg : decode y.2.1 pc = .ok (.if_icmp .gt off, 3)) (kt : z < x → pvEv T d y tgt L st M Q) (kf : ¬ (z < x) → pvEv T d y (pc + 3) L st M Q) : pvEv T d y pc L (.int z :: .int x :: st) M Q := pv_icmp .gt ht hdg (fun h => kt (sc_lt.mpr h)) (fun h => kf (fun e => by have h : x.toInt ≤ z.toInt := h; rw [sc_lt] at e; omega))
theorem pv_icmp_le {x z : Int32} {off : Int} (tgt : Nat) (ht : (pc : Int) + off = (tgt : Int)) (hdg : decode y.2.1 pc = .ok (.if_icmp .le off, 3)) (kt : x ≤ z → pvEv T d y tgt L st M Q) (kf : ¬ (x ≤ z) → pvEv T d y (pc + 3) L st M Q) : pvEv T d y pc L (.int z :: .int x :: st) M Q := pv_icmp .le ht hdg (fun h => kt (sc_le.mpr h)) (fun h => kf (fun e => by have h : z.toInt < x.toInt := h; rw [sc_le] at e; omega))
theorem pv_if_eq {x : Int32} {off : Int} (tgt : Nat) (ht : (pc : Int) + off = (tgt : Int)) (hdg : decode y.2.1 pc = .ok (.ifCond .eq off, 3)) (kt : x = 0 → pvEv T d y tgt L st M Q) (kf : ¬ (x = 0) → pvEv T d y (pc + 3) L st M Q) : pvEv T d y pc L (.int x :: st) M Q := pv_ifc .eq ht hdg (fun h => kt (scq_eq.mpr (h.trans pv_z0.symm))) (fun h => kf (fun e => h ((scq_eq.mp e).trans pv_z0)))
theorem pv_if_ne {x : Int32} {off : Int} (tgt : Nat) (ht : (pc : Int) + off = (tgt : Int)) (hdg : decode y.2.1 pc = .ok (.ifCond .ne off, 3)) (kt : ¬ x = 0 → pvEv T d y tgt L st M Q) (kf : x = 0 → pvEv T d y (pc + 3) L st M Q) : pvEv T d y pc L (.int x :: st) M Q := pv_ifc .ne ht hdg (fun h => kt (fun e => h ((scq_eq.mp e).trans pv_z0))) (fun h => kf (scq_eq.mpr (h.trans pv_z0.symm)))
theorem pv_if_lt {x : Int32} {off : Int} (tgt : Nat) (ht : (pc : Int) + off = (tgt : Int)) (hdg : decode y.2.1 pc = .ok (.ifCond .lt off, 3)) (kt : x < 0 → pvEv T d y tgt L st M Q) (kf : ¬ (x < 0) → pvEv T d y (pc + 3) L st M Q) : pvEv T d y pc L (.int x :: st) M Q := pv_ifc .lt ht hdg (fun h => kt (by have h : x.toInt < 0 := h; rw [sc_lt, pv_z0]; exact h)) (fun h => kf (fun e => by have h : 0 ≤ x.toInt := h; rw [sc_lt, pv_z0] at e; omega))
theorem pv_if_ge {x : Int32} {off : Int} (tgt : Nat) (ht : (pc : Int) + off = (tgt : Int)) (hdg : decode y.2.1 pc = .ok (.ifCond .ge off, 3)) (kt : 0 ≤ x → pvEv T d y tgt L st M Q) (kf : ¬ (0 ≤ x) → pvEv T d y (pc + 3) L st M Q) : pvEv T d y pc L (.int x :: st) M Q := pv_ifc .ge ht hdg (fun h => kt (by have h : 0 ≤ x.toInt := h; rw [sc_le, pv_z0]; exact h)) (fun h => kf (fun e => by have h : x.toInt < 0 := h; rw [sc_le, pv_z0] at e; omega))
theorem pv_if_gt {x : Int32} {off : Int} (tgt : Nat) (ht : (pc : Int) + off = (tgt : Int)) (hdg : decode y.2.1 pc = .ok (.ifCond .gt off, 3)) (kt : 0 < x → pvEv T d y tgt L st M Q) (kf : ¬ (0 < x) → pvEv T d y (pc + 3) L st M Q) : pvEv T d y pc L (.int x :: st) M Q := pv_ifc .gt ht hdg (fun h => kt (by have h : 0 < x.toInt := h; rw [sc_lt, pv_z0]; exact h)) (fun h => kf (fun e => by have h : x.toInt ≤ 0 := h; rw [sc_lt, pv_z0] at e; omega))
theorem pv_if_le {x : Int32} {off : Int} (tgt : Nat) (ht : (pc : Int) + off = (tgt : Int)) (hdg : decode y.2.1 pc = .ok (.ifCond .le off, 3)) (kt : x ≤ 0 → pvEv T d y tgt L st M Q) (kf : ¬ (x ≤ 0) → pvEv T d y (pc + 3) L st M Q) : pvEv T d y pc L (.int x :: st) M Q := pv_ifc .le ht hdg (fun h => kt (by have h : x.toInt ≤ 0 := h; rw [sc_le, pv_z0]; exact h)) (fun h => kf (fun e => by have h : 0 < x.toInt := h; rw [sc_le, pv_z0] at e; omega))
theorem pv_goto {off : Int} (tgt : Nat) (ht : (pc : Int) + off = (tgt : Int)) (hdg : decode y.2.1 pc = .ok (.goto off, 3)) (k : pvEv T d y tgt L st M Q) : pvEv T d y pc L st M Q := by
  have h : decide (0 ≤ (pc : Int) + off) = true := by simp only [decide_eq_true_eq]; omega
  have et : ((pc : Int) + off).toNat = tgt := by omega
  exact pvEv.step hdg rfl (by simp only [pvStp]; rw [if_pos h, et]; rfl) k
theorem pvOb_t {k i0 ci j t : Nat} {w : Bool} (hk : k < T.1) (hkd : T.2.1 k = ci + 6) (hj : j < T.2.2.1 k) : pvOb T k (i0, ci, j, t, w) = true := by simp [pvOb, hk, hkd, hj]
theorem pv_getI {k i0 ci j : Nat} {w : Bool} (hf : pvFd y.1.cls idx = some (i0, ci, j, 0, w)) (hk : k < T.1) (hkd : T.2.1 k = ci + 6) (hj : j < T.2.2.1 k) (hdg : decode y.2.1 pc = .ok (.getfield idx, 3)) (kk : pvEv T d y (pc + 3) L (.int (M.1 k j) :: st) M Q) : pvEv T d y pc L (.ref k :: st) M Q := pvEv.step hdg rfl (by simp only [pvStp, pvGet, hf]; rw [if_pos (pvOb_t hk hkd hj)]; rfl) kk
theorem pv_getJ {k i0 ci j : Nat} {w : Bool} (hf : pvFd y.1.cls idx = some (i0, ci, j, 1, w)) (hk : k < T.1) (hkd : T.2.1 k = ci + 6) (hj : j < T.2.2.1 k) (hdg : decode y.2.1 pc = .ok (.getfield idx, 3)) (kk : pvEv T d y (pc + 3) L (.long (M.2 k j) :: st) M Q) : pvEv T d y pc L (.ref k :: st) M Q := pvEv.step hdg rfl (by simp only [pvStp, pvGet, hf]; rw [if_pos (pvOb_t hk hkd hj)]; rfl) kk
theorem pv_getR {k i0 ci j : Nat} {w : Bool} (r : Nat) (hr : T.2.2.2 k j = r) (h1 : r < 1000) (hf : pvFd y.1.cls idx = some (i0, ci, j, 2, w)) (hk : k < T.1) (hkd : T.2.1 k = ci + 6) (hj : j < T.2.2.1 k) (hdg : decode y.2.1 pc = .ok (.getfield idx, 3)) (kk : pvEv T d y (pc + 3) L (.ref r :: st) M Q) : pvEv T d y pc L (.ref k :: st) M Q := by
  subst hr
  have hb : Nat.blt (T.2.2.2 k j) 1000 = true := by simp [h1]
  exact pvEv.step hdg rfl (by simp only [pvStp, pvGet, hf]; rw [if_pos (pvOb_t hk hkd hj), if_pos hb]; rfl) kk
theorem pv_putI {k i0 ci j : Nat} {x : Int32} (hf : pvFd y.1.cls idx = some (i0, ci, j, 0, true)) (hk : k < T.1) (hkd : T.2.1 k = ci + 6) (hj : j < T.2.2.1 k) (hdg : decode y.2.1 pc = .ok (.putfield idx, 3)) (kk : pvEv T d y (pc + 3) L st (fmI M k j x) Q) : pvEv T d y pc L (.int x :: .ref k :: st) M Q := pvEv.step hdg rfl (by simp only [pvStp, pvPut, hf]; rw [if_pos (by rw [pvOb_t hk hkd hj]; rfl)]; rfl) kk
theorem pv_putJ {k i0 ci j : Nat} {x : Int64} (hf : pvFd y.1.cls idx = some (i0, ci, j, 1, true)) (hk : k < T.1) (hkd : T.2.1 k = ci + 6) (hj : j < T.2.2.1 k) (hdg : decode y.2.1 pc = .ok (.putfield idx, 3)) (kk : pvEv T d y (pc + 3) L st (fmJ M k j x) Q) : pvEv T d y pc L (.long x :: .ref k :: st) M Q := pvEv.step hdg rfl (by simp only [pvStp, pvPut, hf]; rw [if_pos (by rw [pvOb_t hk hkd hj]; rfl)]; rfl) kk
theorem pvIx_t {k kd n : Nat} {i : Int32} (hk : k < T.1) (hkd : T.2.1 k = kd) (hln : T.2.2.1 k = n) (hin : vp_in i n) : pvIx T k kd i = true := by
  subst hln
  have h := vp_in_iff.mp hin
  simp only [pvIx, Bool.and_eq_true, Nat.blt_eq, Nat.beq_eq, decide_eq_true_eq]
  exact ⟨⟨⟨hk, hkd⟩, h.1⟩, h.2⟩
theorem pv_iald {k n : Nat} {i : Int32} (hk : k < T.1) (hkd : T.2.1 k = 0) (hln : T.2.2.1 k = n) (hin : vp_in i n) (hdg : decode y.2.1 pc = .ok (.iaload, 1)) (kk : pvEv T d y (pc + 1) L (.int (M.1 k i.toNatClampNeg) :: st) M Q) : pvEv T d y pc L (.int i :: .ref k :: st) M Q := pvEv.step hdg rfl (by simp only [pvStp, pvAld]; rw [if_pos (pvIx_t hk hkd hln hin)]; rfl) kk
theorem pv_bald {k n : Nat} {i : Int32} (hk : k < T.1) (hkd : T.2.1 k = 2) (hln : T.2.2.1 k = n) (hin : vp_in i n) (hdg : decode y.2.1 pc = .ok (.baload, 1)) (kk : pvEv T d y (pc + 1) L (.int (M.1 k i.toNatClampNeg) :: st) M Q) : pvEv T d y pc L (.int i :: .ref k :: st) M Q := pvEv.step hdg rfl (by simp only [pvStp, pvAld]; rw [if_pos (pvIx_t hk hkd hln hin)]; rfl) kk
theorem pv_lald {k n : Nat} {i : Int32} (hk : k < T.1) (hkd : T.2.1 k = 1) (hln : T.2.2.1 k = n) (hin : vp_in i n) (hdg : decode y.2.1 pc = .ok (.laload, 1)) (kk : pvEv T d y (pc + 1) L (.long (M.2 k i.toNatClampNeg) :: st) M Q) : pvEv T d y pc L (.int i :: .ref k :: st) M Q := pvEv.step hdg rfl (by simp only [pvStp, pvAld]; rw [if_pos (pvIx_t hk hkd hln hin)]; rfl) kk
theorem pv_iast {k n : Nat} {i x : Int32} (hk : k < T.1) (hkd : T.2.1 k = 0) (hln : T.2.2.1 k = n) (hin : vp_in i n) (hdg : decode y.2.1 pc = .ok (.iastore, 1)) (kk : pvEv T d y (pc + 1) L st (fmI M k i.toNatClampNeg x) Q) : pvEv T d y pc L (.int x :: .int i :: .ref k :: st) M Q := pvEv.step hdg rfl (by simp only [pvStp, pvAst]; rw [if_pos (pvIx_t hk hkd hln hin)]; rfl) kk
theorem pv_bast {k n : Nat} {i x : Int32} (hk : k < T.1) (hkd : T.2.1 k = 2) (hln : T.2.2.1 k = n) (hin : vp_in i n) (hdg : decode y.2.1 pc = .ok (.bastore, 1)) (kk : pvEv T d y (pc + 1) L st (fmI M k i.toNatClampNeg (vp_nar .byte x)) Q) : pvEv T d y pc L (.int x :: .int i :: .ref k :: st) M Q := pvEv.step hdg rfl (by simp only [pvStp, pvAst]; rw [if_pos (pvIx_t hk hkd hln hin)]; rfl) kk
theorem pv_last {k n : Nat} {i : Int32} {x : Int64} (hk : k < T.1) (hkd : T.2.1 k = 1) (hln : T.2.2.1 k = n) (hin : vp_in i n) (hdg : decode y.2.1 pc = .ok (.lastore, 1)) (kk : pvEv T d y (pc + 1) L st (fmJ M k i.toNatClampNeg x) Q) : pvEv T d y pc L (.long x :: .int i :: .ref k :: st) M Q := pvEv.step hdg rfl (by simp only [pvStp, pvAst]; rw [if_pos (pvIx_t hk hkd hln hin)]; rfl) kk
theorem pv_aald {k n r : Nat} {i : Int32} (hk : k < T.1) (hkd : T.2.1 k = 3 ∨ T.2.1 k = 4 ∨ T.2.1 k = 5) (hln : T.2.2.1 k = n) (hin : vp_in i n) (hr : T.2.2.2 k i.toNatClampNeg = r) (h1 : r < 1000) (hdg : decode y.2.1 pc = .ok (.aaload, 1)) (kk : pvEv T d y (pc + 1) L (.ref r :: st) M Q) : pvEv T d y pc L (.int i :: .ref k :: st) M Q := by
  subst hr
  have hb : ((pvIx T k 3 i || pvIx T k 4 i || pvIx T k 5 i) && Nat.blt (T.2.2.2 k i.toNatClampNeg) 1000) = true := by
    rw [Bool.and_eq_true, Bool.or_eq_true, Bool.or_eq_true]
    refine ⟨?_, by simp [h1]⟩
    rcases hkd with e | e | e
    · exact Or.inl (Or.inl (pvIx_t hk e hln hin))
    · exact Or.inl (Or.inr (pvIx_t hk e hln hin))
    · exact Or.inr (pvIx_t hk e hln hin)
  exact pvEv.step hdg rfl (by simp only [pvStp, pvAald]; rw [if_pos hb]; rfl) kk
theorem pv_alen {k n : Nat} {v : Int32} (hk : k < T.1) (hkd : T.2.1 k = 0 ∨ T.2.1 k = 1) (hln : T.2.2.1 k = n) (hv : Int32.ofNat n = v) (hdg : decode y.2.1 pc = .ok (.arraylength, 1)) (kk : pvEv T d y (pc + 1) L (.int v :: st) M Q) : pvEv T d y pc L (.ref k :: st) M Q := by
  subst hv
  subst hln
  have hb : (Nat.blt k T.1 && (Nat.beq (T.2.1 k) 0 || Nat.beq (T.2.1 k) 1)) = true := by
    simp only [Bool.and_eq_true, Bool.or_eq_true, Nat.blt_eq, Nat.beq_eq]
    exact ⟨hk, hkd⟩
  exact pvEv.step hdg rfl (by simp only [pvStp, pvAlen]; rw [if_pos hb]; rfl) kk
theorem pv_alenI {k n : Nat} {v : Int32} (hk : k < T.1) (hkd : T.2.1 k = 0) (hln : T.2.2.1 k = n) (hv : Int32.ofNat n = v) (hdg : decode y.2.1 pc = .ok (.arraylength, 1)) (kk : pvEv T d y (pc + 1) L (.int v :: st) M Q) : pvEv T d y pc L (.ref k :: st) M Q := pv_alen hk (Or.inl hkd) hln hv hdg kk
theorem pv_alenJ {k n : Nat} {v : Int32} (hk : k < T.1) (hkd : T.2.1 k = 1) (hln : T.2.2.1 k = n) (hv : Int32.ofNat n = v) (hdg : decode y.2.1 pc = .ok (.arraylength, 1)) (kk : pvEv T d y (pc + 1) L (.int v :: st) M Q) : pvEv T d y pc L (.ref k :: st) M Q := pv_alen hk (Or.inr hkd) hln hv hdg kk
theorem pv_ldc {i0 : Nat} {v : Int32} (hw : pvKc y.1.cls idx = some (i0, .inl v)) (hdg : decode y.2.1 pc = .ok (.ldc idx, 2)) (k : pvEv T d y (pc + 2) L (.int v :: st) M Q) : pvEv T d y pc L st M Q := pvEv.step hdg rfl (by simp only [pvStp, pvLdc, hw]; rfl) k
theorem pv_ldcw {i0 : Nat} {v : Int32} (hw : pvKc y.1.cls idx = some (i0, .inl v)) (hdg : decode y.2.1 pc = .ok (.ldc_w idx, 3)) (k : pvEv T d y (pc + 3) L (.int v :: st) M Q) : pvEv T d y pc L st M Q := pvEv.step hdg rfl (by simp only [pvStp, pvLdcw, hw]; rfl) k
theorem pv_ldc2 {i0 : Nat} {v : Int64} (hw : pvKc y.1.cls idx = some (i0, .inr v)) (hdg : decode y.2.1 pc = .ok (.ldc2_w idx, 3)) (k : pvEv T d y (pc + 3) L (.long v :: st) M Q) : pvEv T d y pc L st M Q := pvEv.step hdg rfl (by simp only [pvStp, pvLdc2, hw]; rfl) k
theorem pv_ldcT {i0 i : Nat} (hw : pvKc y.1.cls idx = none) (ht : pvTx y.1.cls idx = some (i0, i)) (hdg : decode y.2.1 pc = .ok (.ldc idx, 2)) (k : pvEv T d y (pc + 2) L (.ref (1000 + i) :: st) M Q) : pvEv T d y pc L st M Q := pvEv.step hdg rfl (by simp only [pvStp, pvLdc, hw, ht]; rfl) k
theorem pv_copy {k0 k1 n0 n1 : Nat} {sp dp n : Int32} (hm : pvMm y.1.cls idx = none) (hc : pvCp y.1.cls idx = true) (hk0 : k0 < T.1) (hd0 : T.2.1 k0 = 0) (hn0 : T.2.2.1 k0 = n0) (hk1 : k1 < T.1) (hd1 : T.2.1 k1 = 0) (hn1 : T.2.2.1 k1 = n1) (h1 : 0 ≤ sp.toInt) (h2 : 0 ≤ dp.toInt) (h3 : 0 ≤ n.toInt) (h4 : sp.toNatClampNeg + n.toNatClampNeg ≤ n0) (h5 : dp.toNatClampNeg + n.toNatClampNeg ≤ n1) (hca : pvCat st ≤ 60) (hdg : decode y.2.1 pc = .ok (.invokestatic idx, 3)) (kk : pvEv T d y (pc + 3) L st (fmA M k1 (va_cpy (M.1 k0) (M.1 k1) sp.toNatClampNeg dp.toNatClampNeg n.toNatClampNeg)) Q) : pvEv T d y pc L (.int n :: .int dp :: .ref k1 :: .int sp :: .ref k0 :: st) M Q := by
  subst hn0
  subst hn1
  refine pvEv.step (q := (pc + 3, L, st, _)) hdg rfl ?_ kk
  simp only [pvStp, pvStat, hm, hc, if_true, pvCopy]
  rw [if_pos]
  · rfl
  · simp only [Bool.and_eq_true, Nat.blt_eq, Nat.beq_eq, Nat.ble_eq, decide_eq_true_eq]
    exact ⟨⟨⟨⟨⟨⟨⟨⟨⟨hk0, hd0⟩, hk1⟩, hd1⟩, h1⟩, h2⟩, h3⟩, h4⟩, h5⟩, hca⟩
theorem pv_mm {i0 : Nat} {b : Bool} {x z : Int32} (hm : pvMm y.1.cls idx = some (i0, b)) (hd1 : 1 ≤ d) (hca : pvCat st ≤ 8) (hdg : decode y.2.1 pc = .ok (.invokestatic idx, 3)) (kk : pvEv T d y (pc + 3) L (.int (pvMx b x z) :: st) M Q) : pvEv T d y pc L (.int z :: .int x :: st) M Q := by
  refine pvEv.step (q := (pc + 3, L, _, M)) hdg rfl ?_ kk
  simp only [pvStp, pvStat, hm]
  rw [if_pos (by simp [hd1, hca])]
  rfl
theorem pv_ml {i0 : Nat} {b : Bool} {x z : Int64} (hm : pvMm y.1.cls idx = none) (hc : pvCp y.1.cls idx = false) (hl : pvMl y.1.cls idx = some (i0, b)) (hd1 : 1 ≤ d) (hca : pvCat st ≤ 8) (hdg : decode y.2.1 pc = .ok (.invokestatic idx, 3)) (kk : pvEv T d y (pc + 3) L (.long (pvMxl b x z) :: st) M Q) : pvEv T d y pc L (.long z :: .long x :: st) M Q := by
  refine pvEv.step (q := (pc + 3, L, _, M)) hdg rfl ?_ kk
  simp only [pvStp, pvStat, hm, hc, hl]
  rw [if_neg Bool.false_ne_true]
  rw [if_pos (by simp [hd1, hca])]
  rfl
theorem pv_strlen {i0 i ci : Nat} {y' : fmY} (hq : pvCq y.1.cls idx = some (i0, 2, ci, 0, y')) (hi : i < 5) (hd2 : 2 ≤ d) (hca : pvCat st ≤ 8) (hdg : decode y.2.1 pc = .ok (.invokevirtual idx, 3)) (kk : pvEv T d y (pc + 3) L (.int (nI (fmLen.getD i 0)) :: st) M Q) : pvEv T d y pc L (.ref (1000 + i) :: st) M Q := by
  refine pvEv.step (q := (pc + 3, L, _, M)) hdg rfl ?_ kk
  simp only [pvStp, pvVirt, hq, pvCal]
  rw [if_pos (by simp)]
  rw [if_pos (by simp [hi, hd2, hca])]
  rw [Nat.add_sub_cancel_left]
  rfl
theorem pv_charAt {i0 i ci : Nat} {y' : fmY} {x : Int32} (hq : pvCq y.1.cls idx = some (i0, 3, ci, 1, y')) (hi : i < 5) (h0 : 0 ≤ x.toInt) (h1 : x.toInt < (fmLen.getD i 0 : Int)) (hd2 : 4 ≤ d) (hca : pvCat st ≤ 8) (hdg : decode y.2.1 pc = .ok (.invokevirtual idx, 3)) (kk : pvEv T d y (pc + 3) L (.int (chE i x.toNatClampNeg) :: st) M Q) : pvEv T d y pc L (.int x :: .ref (1000 + i) :: st) M Q := by
  refine pvEv.step (q := (pc + 3, L, _, M)) hdg rfl ?_ kk
  simp only [pvStp, pvVirt, hq, pvCal]
  rw [if_pos (by simp)]
  rw [Nat.add_sub_cancel_left]
  rw [if_pos (by simp only [Bool.and_eq_true, Nat.ble_eq, Nat.blt_eq, decide_eq_true_eq]; exact ⟨⟨⟨⟨⟨by omega, hi⟩, hd2⟩, hca⟩, h0⟩, h1⟩)]
  rfl
theorem pv_table {dflt lo hi : Int} {offs : Array Int} {len : Nat} {x : Int32} (tgt : Nat) (hsz : offs.size = (hi - lo + 1).toNat) (ht : fmTsw pc dflt lo hi offs x = (tgt : Int)) (hdg : decode y.2.1 pc = .ok (.tableswitch dflt lo hi offs, len)) (k : pvEv T d y tgt L st M Q) : pvEv T d y pc L (.int x :: st) M Q := by
  refine pvEv.step (q := (tgt, L, st, M)) hdg rfl ?_ k
  simp only [pvStp]
  rw [if_pos (by rw [ht]; simp only [Bool.and_eq_true, decide_eq_true_eq]; exact ⟨hsz, by omega⟩), ht]
  rfl
theorem pv_lookup {dflt : Int} {ps : Array (Int × Int)} {len : Nat} {x : Int32} (tgt : Nat) (hp : (ps.toList.zip (ps.toList.drop 1)).all (fun (a, next) => a.1 < next.1) = true) (ht : (pc : Int) + Op.lookupswitch.offset ps.toList dflt x.toInt = (tgt : Int)) (hdg : decode y.2.1 pc = .ok (.lookupswitch dflt ps, len)) (k : pvEv T d y tgt L st M Q) : pvEv T d y pc L (.int x :: st) M Q := by
  refine pvEv.step (q := (tgt, L, st, M)) hdg rfl ?_ k
  simp only [pvStp]
  rw [if_pos (by rw [ht]; rw [Bool.and_eq_true, decide_eq_true_eq]; exact ⟨hp, by omega⟩), ht]
  rfl
theorem pv_ireturn {v : Int32} (hr : y.2.2.2 = some .int) (hdg : decode y.2.1 pc = .ok (.ireturn, 1)) (hq : Q (.inl (some (.int v))) M) : pvEv T d y pc L [.int v] M Q := pvEv.stop hdg rfl (by simp only [pvStp, hr]; rfl) hq
theorem pv_zreturn {v : Int32} (hr : y.2.2.2 = some .boolean) (hv : v = 0 ∨ v = 1) (hdg : decode y.2.1 pc = .ok (.ireturn, 1)) (hq : Q (.inl (some (.int v))) M) : pvEv T d y pc L [.int v] M Q := pvEv.stop hdg rfl (by simp only [pvStp, hr, pvRetI]; rw [if_pos (by simpa using hv)]; rfl) hq
theorem pv_lreturn {v : Int64} (hr : y.2.2.2 = some .long) (hdg : decode y.2.1 pc = .ok (.lreturn, 1)) (hq : Q (.inl (some (.long v))) M) : pvEv T d y pc L [.long v] M Q := pvEv.stop hdg rfl (by simp only [pvStp, hr, if_true]; rfl) hq
theorem pv_return (hr : y.2.2.2 = none) (hdg : decode y.2.1 pc = .ok (.return_, 1)) (hq : Q (.inl none) M) : pvEv T d y pc L [] M Q := pvEv.stop hdg rfl (by simp only [pvStp, hr, if_true]; rfl) hq
theorem pv_thrI (hk : pvK y.1.cls = 10) (d0 : decode y.2.1 pc = .ok (.new 376, 3)) (d3 : decode y.2.1 (pc + 3) = .ok (.dup, 1)) (d4 : decode y.2.1 (pc + 4) = .ok (.ldc_w 378, 3)) (d7 : decode y.2.1 (pc + 7) = .ok (.invokespecial 380, 3)) (d10 : decode y.2.1 (pc + 10) = .ok (.athrow, 1)) (hq : Q (.inr fmIAE) M) : pvEv T d y pc L [] M Q := pvEv.stop d0 rfl (by simp only [pvStp, pvThr]; rw [if_pos (by simp [hk, d3, d10]), if_pos (by simp [d4, d7])]; rfl) hq
theorem pv_thrN (hk : pvK y.1.cls = 10) (d0 : decode y.2.1 pc = .ok (.new 369, 3)) (d3 : decode y.2.1 (pc + 3) = .ok (.dup, 1)) (d4 : decode y.2.1 (pc + 4) = .ok (.ldc_w 371, 3)) (d7 : decode y.2.1 (pc + 7) = .ok (.invokespecial 373, 3)) (d10 : decode y.2.1 (pc + 10) = .ok (.athrow, 1)) (hq : Q (.inr fmNSE) M) : pvEv T d y pc L [] M Q := pvEv.stop d0 rfl (by simp only [pvStp, pvThr]; rw [if_pos (by simp [hk, d3, d10]), if_neg (by simp), if_pos (by simp [d4, d7])]; rfl) hq
theorem pv_invV {i0 k ci : Nat} {args' : List Value} (hc : pvCq y.1.cls idx = some (i0, 0, ci, n, y')) (hk : k < T.1) (hkd : T.2.1 k = ci + 6) (hn : As.length = n) (hargs : args' = .ref k :: As) {st0 : List Value} (hst0 : st0 = As.reverse ++ .ref k :: st) (hcat : pvCat st ≤ 8) (hd : d' + 1 ≤ d) (hdg : decode y.2.1 pc = .ok (.invokevirtual idx, 3)) (hg : pvGood T d' y' args' M (pvThen T d y (pc + 3) L st Q)) : pvEv T d y pc L st0 M Q := by
  subst hst0
  subst hargs
  subst hn
  have hl : As.reverse.length = As.length := by simp
  refine pvEv.call hd hdg rfl ?_ hg
  simp only [pvStp, pvVirt, hc, pvCal]
  rw [if_pos (by simp)]
  rw [← hl, List.drop_left]
  simp only
  rw [if_pos (by simp [hk, hkd, hcat])]
  rw [List.take_left, List.reverse_reverse]
theorem pv_invS {i0 ci : Nat} {args' : List Value} (hm : pvMm y.1.cls idx = none) (hcp : pvCp y.1.cls idx = false) (hml : pvMl y.1.cls idx = none) (hc : pvCq y.1.cls idx = some (i0, 1, ci, n, y')) (hn : args'.length = n) {st0 : List Value} (hst0 : st0 = args'.reverse ++ st) (hcat : pvCat st ≤ 8) (hd : d' + 1 ≤ d) (hdg : decode y.2.1 pc = .ok (.invokestatic idx, 3)) (hg : pvGood T d' y' args' M (pvThen T d y (pc + 3) L st Q)) : pvEv T d y pc L st0 M Q := by
  subst hst0
  subst hn
  have hl : args'.reverse.length = args'.length := by simp
  refine pvEv.call hd hdg rfl ?_ hg
  simp only [pvStp, pvStat, hm, hcp, hml, hc, pvCal]
  rw [if_neg Bool.false_ne_true]
  rw [if_pos (by simp)]
  rw [← hl, List.drop_left]
  rw [if_pos (by simp [hcat])]
  rw [List.take_left, List.reverse_reverse]
theorem pv_then1 {M' : fmM} {v : Value} (h : pvEv T d y pc L (v :: st) M' Q) : pvThen T d y pc L st Q (.inl (some v)) M' := h
theorem pv_then0 {M' : fmM} (h : pvEv T d y pc L st M' Q) : pvThen T d y pc L st Q (.inl none) M' := h
theorem pv_thenX {M' : fmM} {E : String} (h : Q (.inr E) M') : pvThen T d y pc L st Q (.inr E) M' := h
theorem pvGood_of {args : List Value} (hlen : (lg_sl args).length ≤ y.2.2.1) (h : pvEv T d y 0 (pvEnt y args) [] M Q) : pvGood T d y args M Q := ⟨hlen, h⟩
theorem pv_top {x : Int32} (k : ∀ z : Int32, z = x → pvEv T d y pc L (.int z :: st) M Q) : pvEv T d y pc L (.int x :: st) M Q := k x rfl
theorem pv_iloadn {n : Fin 4} {x : Int32} (i : Nat) (hi : (n : Nat) = i) (hv : L[i]? = some (some (.int x))) (hdg : decode y.2.1 pc = .ok (.iload_n n, 1)) (k : pvEv T d y (pc + 1) L (.int x :: st) M Q) : pvEv T d y pc L st M Q := pv_iload_n (by rw [hi]; exact hv) hdg k
theorem pv_lloadn {n : Fin 4} {x : Int64} (i : Nat) (hi : (n : Nat) = i) (hv : L[i]? = some (some (.long x))) (hdg : decode y.2.1 pc = .ok (.lload_n n, 1)) (k : pvEv T d y (pc + 1) L (.long x :: st) M Q) : pvEv T d y pc L st M Q := pv_lload_n (by rw [hi]; exact hv) hdg k
theorem pv_aloadn {n : Fin 4} {x : Nat} (i : Nat) (hi : (n : Nat) = i) (hv : L[i]? = some (some (.ref x))) (hdg : decode y.2.1 pc = .ok (.aload_n n, 1)) (k : pvEv T d y (pc + 1) L (.ref x :: st) M Q) : pvEv T d y pc L st M Q := pv_aload_n (by rw [hi]; exact hv) hdg k
theorem pv_istoren {n : Fin 4} {x : Int32} (i : Nat) (hi : (n : Nat) = i) (hn : i < y.2.2.1) (h2 : fmNo2 L i = true) (hdg : decode y.2.1 pc = .ok (.istore_n n, 1)) (k : pvEv T d y (pc + 1) (L.set i (some (.int x))) st M Q) : pvEv T d y pc L (.int x :: st) M Q := by
  subst hi
  exact pv_istore_n hn h2 hdg k
theorem pv_astoren {n : Fin 4} {x : Nat} (i : Nat) (hi : (n : Nat) = i) (hn : i < y.2.2.1) (h2 : fmNo2 L i = true) (hdg : decode y.2.1 pc = .ok (.astore_n n, 1)) (k : pvEv T d y (pc + 1) (L.set i (some (.ref x))) st M Q) : pvEv T d y pc L (.ref x :: st) M Q := by
  subst hi
  exact pv_astore_n hn h2 hdg k
theorem pv_lstoren {n : Fin 4} {x : Int64} (i : Nat) (hi : (n : Nat) = i) (hn : i + 1 < y.2.2.1) (h2 : fmNo2 L i = true) (hdg : decode y.2.1 pc = .ok (.lstore_n n, 1)) (k : pvEv T d y (pc + 1) ((L.set i (some (.long x))).set (i + 1) none) st M Q) : pvEv T d y pc L (.long x :: st) M Q := by
  subst hi
  exact pv_lstore_n hn h2 hdg k
theorem pv_iincc (i : Nat) {n : Int} {x : Int32} (c : Int32) (hc : Int32.ofInt n = c) (hl : L[i]? = some (some (.int x))) (hn : i < y.2.2.1) (h2 : fmNo2 L i = true) (hdg : decode y.2.1 pc = .ok (.iinc i n, 3)) (k : pvEv T d y (pc + 3) (L.set i (some (.int (x + c)))) st M Q) : pvEv T d y pc L st M Q := pv_iinc hl (by rw [hc]) hn h2 hdg k
theorem pv_invV0 {i0 k ci : Nat} (hc : pvCq y.1.cls idx = some (i0, 0, ci, 0, y')) (hk : k < T.1) (hkd : T.2.1 k = ci + 6) (hcat : pvCat st ≤ 8) (hd : d' + 1 ≤ d) (hdg : decode y.2.1 pc = .ok (.invokevirtual idx, 3)) (hg : pvGood T d' y' [.ref k] M (pvThen T d y (pc + 3) L st Q)) : pvEv T d y pc L (.ref k :: st) M Q := pv_invV (As := []) hc hk hkd rfl rfl rfl hcat hd hdg hg
theorem pv_invV1 {i0 k ci : Nat} {a0 : Value} (hc : pvCq y.1.cls idx = some (i0, 0, ci, 1, y')) (hk : k < T.1) (hkd : T.2.1 k = ci + 6) (hcat : pvCat st ≤ 8) (hd : d' + 1 ≤ d) (hdg : decode y.2.1 pc = .ok (.invokevirtual idx, 3)) (hg : pvGood T d' y' [.ref k, a0] M (pvThen T d y (pc + 3) L st Q)) : pvEv T d y pc L (a0 :: .ref k :: st) M Q := pv_invV (As := [a0]) hc hk hkd rfl rfl rfl hcat hd hdg hg
theorem pv_invV2 {i0 k ci : Nat} {a0 a1 : Value} (hc : pvCq y.1.cls idx = some (i0, 0, ci, 2, y')) (hk : k < T.1) (hkd : T.2.1 k = ci + 6) (hcat : pvCat st ≤ 8) (hd : d' + 1 ≤ d) (hdg : decode y.2.1 pc = .ok (.invokevirtual idx, 3)) (hg : pvGood T d' y' [.ref k, a0, a1] M (pvThen T d y (pc + 3) L st Q)) : pvEv T d y pc L (a1 :: a0 :: .ref k :: st) M Q := pv_invV (As := [a0, a1]) hc hk hkd rfl rfl rfl hcat hd hdg hg
theorem pv_invV3 {i0 k ci : Nat} {a0 a1 a2 : Value} (hc : pvCq y.1.cls idx = some (i0, 0, ci, 3, y')) (hk : k < T.1) (hkd : T.2.1 k = ci + 6) (hcat : pvCat st ≤ 8) (hd : d' + 1 ≤ d) (hdg : decode y.2.1 pc = .ok (.invokevirtual idx, 3)) (hg : pvGood T d' y' [.ref k, a0, a1, a2] M (pvThen T d y (pc + 3) L st Q)) : pvEv T d y pc L (a2 :: a1 :: a0 :: .ref k :: st) M Q := pv_invV (As := [a0, a1, a2]) hc hk hkd rfl rfl rfl hcat hd hdg hg
theorem pv_invV4 {i0 k ci : Nat} {a0 a1 a2 a3 : Value} (hc : pvCq y.1.cls idx = some (i0, 0, ci, 4, y')) (hk : k < T.1) (hkd : T.2.1 k = ci + 6) (hcat : pvCat st ≤ 8) (hd : d' + 1 ≤ d) (hdg : decode y.2.1 pc = .ok (.invokevirtual idx, 3)) (hg : pvGood T d' y' [.ref k, a0, a1, a2, a3] M (pvThen T d y (pc + 3) L st Q)) : pvEv T d y pc L (a3 :: a2 :: a1 :: a0 :: .ref k :: st) M Q := pv_invV (As := [a0, a1, a2, a3]) hc hk hkd rfl rfl rfl hcat hd hdg hg
theorem pv_invV5 {i0 k ci : Nat} {a0 a1 a2 a3 a4 : Value} (hc : pvCq y.1.cls idx = some (i0, 0, ci, 5, y')) (hk : k < T.1) (hkd : T.2.1 k = ci + 6) (hcat : pvCat st ≤ 8) (hd : d' + 1 ≤ d) (hdg : decode y.2.1 pc = .ok (.invokevirtual idx, 3)) (hg : pvGood T d' y' [.ref k, a0, a1, a2, a3, a4] M (pvThen T d y (pc + 3) L st Q)) : pvEv T d y pc L (a4 :: a3 :: a2 :: a1 :: a0 :: .ref k :: st) M Q := pv_invV (As := [a0, a1, a2, a3, a4]) hc hk hkd rfl rfl rfl hcat hd hdg hg
theorem pv_invV6 {i0 k ci : Nat} {a0 a1 a2 a3 a4 a5 : Value} (hc : pvCq y.1.cls idx = some (i0, 0, ci, 6, y')) (hk : k < T.1) (hkd : T.2.1 k = ci + 6) (hcat : pvCat st ≤ 8) (hd : d' + 1 ≤ d) (hdg : decode y.2.1 pc = .ok (.invokevirtual idx, 3)) (hg : pvGood T d' y' [.ref k, a0, a1, a2, a3, a4, a5] M (pvThen T d y (pc + 3) L st Q)) : pvEv T d y pc L (a5 :: a4 :: a3 :: a2 :: a1 :: a0 :: .ref k :: st) M Q := pv_invV (As := [a0, a1, a2, a3, a4, a5]) hc hk hkd rfl rfl rfl hcat hd hdg hg
theorem pv_invS1 {i0 ci : Nat} {a0 : Value} (hm : pvMm y.1.cls idx = none) (hcp : pvCp y.1.cls idx = false) (hml : pvMl y.1.cls idx = none) (hc : pvCq y.1.cls idx = some (i0, 1, ci, 1, y')) (hcat : pvCat st ≤ 8) (hd : d' + 1 ≤ d) (hdg : decode y.2.1 pc = .ok (.invokestatic idx, 3)) (hg : pvGood T d' y' [a0] M (pvThen T d y (pc + 3) L st Q)) : pvEv T d y pc L (a0 :: st) M Q := pv_invS (args' := [a0]) hm hcp hml hc rfl rfl hcat hd hdg hg
theorem pv_invS2 {i0 ci : Nat} {a0 a1 : Value} (hm : pvMm y.1.cls idx = none) (hcp : pvCp y.1.cls idx = false) (hml : pvMl y.1.cls idx = none) (hc : pvCq y.1.cls idx = some (i0, 1, ci, 2, y')) (hcat : pvCat st ≤ 8) (hd : d' + 1 ≤ d) (hdg : decode y.2.1 pc = .ok (.invokestatic idx, 3)) (hg : pvGood T d' y' [a0, a1] M (pvThen T d y (pc + 3) L st Q)) : pvEv T d y pc L (a1 :: a0 :: st) M Q := pv_invS (args' := [a0, a1]) hm hcp hml hc rfl rfl hcat hd hdg hg
theorem pv_invS3 {i0 ci : Nat} {a0 a1 a2 : Value} (hm : pvMm y.1.cls idx = none) (hcp : pvCp y.1.cls idx = false) (hml : pvMl y.1.cls idx = none) (hc : pvCq y.1.cls idx = some (i0, 1, ci, 3, y')) (hcat : pvCat st ≤ 8) (hd : d' + 1 ≤ d) (hdg : decode y.2.1 pc = .ok (.invokestatic idx, 3)) (hg : pvGood T d' y' [a0, a1, a2] M (pvThen T d y (pc + 3) L st Q)) : pvEv T d y pc L (a2 :: a1 :: a0 :: st) M Q := pv_invS (args' := [a0, a1, a2]) hm hcp hml hc rfl rfl hcat hd hdg hg
theorem pv_invS4 {i0 ci : Nat} {a0 a1 a2 a3 : Value} (hm : pvMm y.1.cls idx = none) (hcp : pvCp y.1.cls idx = false) (hml : pvMl y.1.cls idx = none) (hc : pvCq y.1.cls idx = some (i0, 1, ci, 4, y')) (hcat : pvCat st ≤ 8) (hd : d' + 1 ≤ d) (hdg : decode y.2.1 pc = .ok (.invokestatic idx, 3)) (hg : pvGood T d' y' [a0, a1, a2, a3] M (pvThen T d y (pc + 3) L st Q)) : pvEv T d y pc L (a3 :: a2 :: a1 :: a0 :: st) M Q := pv_invS (args' := [a0, a1, a2, a3]) hm hcp hml hc rfl rfl hcat hd hdg hg
theorem pv_invS5 {i0 ci : Nat} {a0 a1 a2 a3 a4 : Value} (hm : pvMm y.1.cls idx = none) (hcp : pvCp y.1.cls idx = false) (hml : pvMl y.1.cls idx = none) (hc : pvCq y.1.cls idx = some (i0, 1, ci, 5, y')) (hcat : pvCat st ≤ 8) (hd : d' + 1 ≤ d) (hdg : decode y.2.1 pc = .ok (.invokestatic idx, 3)) (hg : pvGood T d' y' [a0, a1, a2, a3, a4] M (pvThen T d y (pc + 3) L st Q)) : pvEv T d y pc L (a4 :: a3 :: a2 :: a1 :: a0 :: st) M Q := pv_invS (args' := [a0, a1, a2, a3, a4]) hm hcp hml hc rfl rfl hcat hd hdg hg
theorem pv_invS6 {i0 ci : Nat} {a0 a1 a2 a3 a4 a5 : Value} (hm : pvMm y.1.cls idx = none) (hcp : pvCp y.1.cls idx = false) (hml : pvMl y.1.cls idx = none) (hc : pvCq y.1.cls idx = some (i0, 1, ci, 6, y')) (hcat : pvCat st ≤ 8) (hd : d' + 1 ≤ d) (hdg : decode y.2.1 pc = .ok (.invokestatic idx, 3)) (hg : pvGood T d' y' [a0, a1, a2, a3, a4, a5] M (pvThen T d y (pc + 3) L st Q)) : pvEv T d y pc L (a5 :: a4 :: a3 :: a2 :: a1 :: a0 :: st) M Q := pv_invS (args' := [a0, a1, a2, a3, a4, a5]) hm hcp hml hc rfl rfl hcat hd hdg hg
theorem pv_invS7 {i0 ci : Nat} {a0 a1 a2 a3 a4 a5 a6 : Value} (hm : pvMm y.1.cls idx = none) (hcp : pvCp y.1.cls idx = false) (hml : pvMl y.1.cls idx = none) (hc : pvCq y.1.cls idx = some (i0, 1, ci, 7, y')) (hcat : pvCat st ≤ 8) (hd : d' + 1 ≤ d) (hdg : decode y.2.1 pc = .ok (.invokestatic idx, 3)) (hg : pvGood T d' y' [a0, a1, a2, a3, a4, a5, a6] M (pvThen T d y (pc + 3) L st Q)) : pvEv T d y pc L (a6 :: a5 :: a4 :: a3 :: a2 :: a1 :: a0 :: st) M Q := pv_invS (args' := [a0, a1, a2, a3, a4, a5, a6]) hm hcp hml hc rfl rfl hcat hd hdg hg
theorem pv_stI_n {n : Fin 4} {x : Int32} (hn : (n : Nat) < y.2.2.1) (hdg : decode y.2.1 pc = .ok (.istore_n n, 1)) (k : pvEv T d y (pc + 1) ((pvKill L (n : Nat)).set (n : Nat) (some (.int x))) st M Q) : pvEv T d y pc L (.int x :: st) M Q := pvEv.step hdg rfl (by simp only [pvStp, pvStor]; rw [if_pos (by simp [hn])]; rfl) k
theorem pv_stJ_n {n : Fin 4} {x : Int64} (hn : (n : Nat) + 1 < y.2.2.1) (hdg : decode y.2.1 pc = .ok (.lstore_n n, 1)) (k : pvEv T d y (pc + 1) (((pvKill L (n : Nat)).set (n : Nat) (some (.long x))).set ((n : Nat) + 1) none) st M Q) : pvEv T d y pc L (.long x :: st) M Q := pvEv.step hdg rfl (by simp only [pvStp, pvStor]; rw [if_pos (by simp [hn])]; rfl) k
theorem pv_stR_n {n : Fin 4} {x : Nat} (hn : (n : Nat) < y.2.2.1) (hdg : decode y.2.1 pc = .ok (.astore_n n, 1)) (k : pvEv T d y (pc + 1) ((pvKill L (n : Nat)).set (n : Nat) (some (.ref x))) st M Q) : pvEv T d y pc L (.ref x :: st) M Q := pvEv.step hdg rfl (by simp only [pvStp, pvStor]; rw [if_pos (by simp [hn])]; rfl) k
theorem pv_stI {n : Nat} {x : Int32} (hn : n < y.2.2.1) (hdg : decode y.2.1 pc = .ok (.istore n, 2)) (k : pvEv T d y (pc + 2) ((pvKill L n).set n (some (.int x))) st M Q) : pvEv T d y pc L (.int x :: st) M Q := pvEv.step hdg rfl (by simp only [pvStp, pvStor]; rw [if_pos (by simp [hn])]; rfl) k
theorem pv_stJ {n : Nat} {x : Int64} (hn : n + 1 < y.2.2.1) (hdg : decode y.2.1 pc = .ok (.lstore n, 2)) (k : pvEv T d y (pc + 2) (((pvKill L n).set n (some (.long x))).set (n + 1) none) st M Q) : pvEv T d y pc L (.long x :: st) M Q := pvEv.step hdg rfl (by simp only [pvStp, pvStor]; rw [if_pos (by simp [hn])]; rfl) k
theorem pv_stR {n : Nat} {x : Nat} (hn : n < y.2.2.1) (hdg : decode y.2.1 pc = .ok (.astore n, 2)) (k : pvEv T d y (pc + 2) ((pvKill L n).set n (some (.ref x))) st M Q) : pvEv T d y pc L (.ref x :: st) M Q := pvEv.step hdg rfl (by simp only [pvStp, pvStor]; rw [if_pos (by simp [hn])]; rfl) k
theorem pv_stinc {i : Nat} {n : Int} {x : Int32} (hl : L.getD i none = some (.int x)) (hn : i < y.2.2.1) (hdg : decode y.2.1 pc = .ok (.iinc i n, 3)) (k : pvEv T d y (pc + 3) ((pvKill L i).set i (some (.int (x + Int32.ofInt n)))) st M Q) : pvEv T d y pc L st M Q := pvEv.step hdg rfl (by simp only [pvStp, hl]; rw [if_pos (by simp [hn])]; rfl) k
end PvRows
end
-- P 10fz
section
-- WHAT THE REFERENCE KEEPS BESIDE BOUNDS: its law is well-formed, its lives take hours
abbrev tC : Type := List (Nat × Nat)
/-- the stack's height behind such a code -/
def dpR : Nat → tC → Option Nat
  | d, [] => some d
  | d, c :: cs => if c.1 < 2 then (if c.1 = 1 ∧ 4 < c.2 then none else dpR (d + 1) cs) else (if 2 ≤ d then dpR (d - 1) cs else none)
def lwHas (m : Nat → Nat → Int32) (b : Nat) (cs : tC) : Prop := ∀ (i : Nat) (c : Nat × Nat), cs[i]? = some c → (m (b + i) 0).toInt = c.1 ∧ (m (b + i) 1).toInt = c.2
def jmOk (m : Nat → Nat → Int32) : Prop := (∃ cs : tC, (m 0 17).toInt = (cs.length : Int) ∧ cs.length ≤ 160 ∧ (cs = [] ∨ dpR 0 cs = some 1) ∧ lwHas m 91 cs) ∧ ∀ i : Nat, i < 8 → (i : Int) < (m 4 0).toInt → 1 ≤ (m (35 + i) 3).toInt
/-- places that it speaks of -/
def jmPr (k j : Nat) : Bool := (Nat.ble 91 k && Nat.blt k 251) || (Nat.beq k 0 && Nat.beq j 17) || (Nat.beq k 4 && Nat.beq j 0) || (Nat.ble 35 k && Nat.blt k 43 && Nat.beq j 3)
theorem jm_stable {m m' : Nat → Nat → Int32} (h : jmOk m) (e : ∀ k j, jmPr k j = true → m' k j = m k j) : jmOk m' := by
  obtain ⟨⟨cs, h1, h2, h3, h4⟩, h5⟩ := h
  refine ⟨⟨cs, ?_, h2, h3, fun i c hi => ?_⟩, fun i hi h8 => ?_⟩
  · rw [e 0 17 (by decide)]
    exact h1
  · have hl : i < cs.length := (List.getElem?_eq_some_iff.mp hi).1
    have hp : ∀ j, jmPr (91 + i) j = true := fun j => by
      have h1 : Nat.ble 91 (91 + i) = true := by simp
      have h2 : Nat.blt (91 + i) 251 = true := by simp; omega
      simp only [jmPr, h1, h2, Bool.and_self, Bool.true_or]
    rw [e _ _ (hp 0), e _ _ (hp 1)]
    exact h4 i c hi
  · rw [e 4 0 (by decide)] at h8
    have hp : jmPr (35 + i) 3 = true := by
      have h1 : Nat.ble 35 (35 + i) = true := by simp
      have h2 : Nat.blt (35 + i) 43 = true := by simp; omega
      have h3 : Nat.beq 3 3 = true := rfl
      simp only [jmPr, h1, h2, h3, Bool.and_self, Bool.or_true]
    rw [e _ _ hp]
    exact h5 i hi h8
def scMd (inv : Nat → List (Int × Int)) : Bool := match inv 999 with
  | [e] => decide (e = (1, 1))
  | _ => false
def scJ (inv : Nat → List (Int × Int)) (m : Nat → Nat → Int32) : Prop := scMd inv = true → jmOk m
/-- places a to a + n of cell k aren't of those -/
def jmFree (k a n : Nat) : Bool := !(Nat.ble 91 k && Nat.blt k 251) && !(Nat.beq k 0 && Nat.ble a 17 && Nat.ble 17 (a + n)) && !(Nat.beq k 4 && Nat.beq a 0) && !(Nat.ble 35 k && Nat.blt k 43 && Nat.ble a 3 && Nat.ble 3 (a + n))
def scFree (inv : Nat → List (Int × Int)) (k a n : Nat) : Bool := !scMd inv || jmFree k a n
theorem jmFree_ok {k a n j : Nat} (h : jmFree k a n = true) (h1 : a ≤ j) (h2 : j ≤ a + n) : jmPr k j = false := by
  simp only [jmFree, Bool.and_eq_true, Bool.not_eq_true', Bool.and_eq_false_iff, ← Bool.not_eq_true, Nat.ble_eq, Nat.blt_eq, Nat.beq_eq] at h
  simp only [jmPr, ← Bool.not_eq_true, Bool.or_eq_true, Bool.and_eq_true, Nat.ble_eq, Nat.blt_eq, Nat.beq_eq]
  omega
theorem scFree_ok {inv : Nat → List (Int × Int)} {k a n : Nat} {m m' : Nat → Nat → Int32} (h : scFree inv k a n = true) (hJ : scJ inv m) (e : ∀ k' j', ¬ (k' = k ∧ a ≤ j' ∧ j' ≤ a + n) → m' k' j' = m k' j') : scJ inv m' := by
  intro hm
  refine jm_stable (hJ hm) (fun k' j' hp => e k' j' ?_)
  rintro ⟨e1, h1, h2⟩
  subst e1
  rw [scFree, hm] at h
  have := jmFree_ok (j := j') (by simpa using h) h1 h2
  rw [this] at hp
  cases hp
end
