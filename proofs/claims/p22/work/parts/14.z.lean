-- THE LAW'S OWN MACHINE: its wrappers, which catch, and its body
def zFix (p : Program) (s : State) (m : MethodId) (args : Array Value) (c : Code) (own : String) (cc : ByteArray) (nL : Nat) (G : fmG) (A : Nat → Prop) : Prop := p.tables.exec = Jvm.exec ∧ c.code = cc ∧ c.maxLocals = nL ∧ s.vm.findClass own = some m.cls ∧ (∀ w ∈ fmWs, w.before args s = true) ∧ lwEnv G A s ∧ ∀ q : Nat, s.heap.size ≤ q → A q
def zEv (p : Program) (l : Launch) (e : Env) (R : Room) (s : State) (m : MethodId) (args : Array Value) (below : List Frame) (meth : Method) (c : Code) (G : fmG) (A : Nat → Prop) (nL : Nat) (Z : State → Prop) (pc : Nat) (L : List (Option Value)) (st : List Value) (ws : va_W) (cu su : Nat) : Prop :=
  ∀ (H : Heap) (locs : List Loc) (ls : Array Slot), lwPic G A ws H → va_S A s.heap H locs → fmHas ls nL L → W p l e R s m args below meth c H locs cu su Z (F0 m pc ls st)
/-- thrown at pc -/
def zEx (p : Program) (l : Launch) (e : Env) (R : Room) (s : State) (m : MethodId) (args : Array Value) (below : List Frame) (meth : Method) (c : Code) (G : fmG) (A : Nat → Prop) (nL : Nat) (Z : State → Prop) (pc : Nat) (L : List (Option Value)) (st : List Value) (ws : va_W) (cu su : Nat) (E : String) : Prop :=
  ∀ (H : Heap) (locs : List Loc) (ls : Array Slot) (q : Nat) (ce : Cell), lwPic G A ws H → va_S A s.heap H locs → fmHas ls nL L → H[q]? = some ce → ce.vm = .none → s.vm.findClass E = some ce.cls → vx_W p l e R s m args below meth c H locs cu su Z (F0 m pc ls st) q
section ZRows
variable {p : Program} {l : Launch} {e : Env} {R : Room} {s : State} {m : MethodId} {args : Array Value} {below : List Frame} {meth : Method} {c : Code} {own : String} {cc : ByteArray} {nL : Nat} {G : fmG} {A : Nat → Prop} {Z : State → Prop} {pc : Nat} {L : List (Option Value)} {st : List Value} {ws : va_W} {cu su : Nat}
theorem z_row (hF : zFix p s m args c own cc nL G A) {pc' : Nat} {st' : List Value} (h : ∀ (p : Program) (e : Env) (R : Room) (s : State) (m : MethodId) (args : Array Value) (below : List Frame) (meth : Method) (c : Code) (H : Heap) (locs : List Loc) (cells slots : Nat) (Qf : State → Prop) (ls : Array Slot), p.tables.exec = Jvm.exec → c.code = cc → fmHas ls nL L → W p l e R s m args below meth c H locs cells slots Qf (F0 m pc' ls st') → W p l e R s m args below meth c H locs cells slots Qf (F0 m pc ls st))
    (k : zEv p l e R s m args below meth c G A nL Z pc' L st' ws cu su) : zEv p l e R s m args below meth c G A nL Z pc L st ws cu su := by
  intro H locs ls hP hS hL
  exact h p e R s m args below meth c H locs cu su Z ls hF.1 hF.2.1 hL (k H locs ls hP hS hL)
theorem z_rowl (hF : zFix p s m args c own cc nL G A) {pc' : Nat} {st' : List Value} {L' : List (Option Value)} (h : ∀ (p : Program) (e : Env) (R : Room) (s : State) (m : MethodId) (args : Array Value) (below : List Frame) (meth : Method) (c : Code) (H : Heap) (locs : List Loc) (cells slots : Nat) (Qf : State → Prop) (ls : Array Slot), p.tables.exec = Jvm.exec → c.code = cc → fmHas ls nL L → (∀ ls' : Array Slot, fmHas ls' nL L' → W p l e R s m args below meth c H locs cells slots Qf (F0 m pc' ls' st')) → W p l e R s m args below meth c H locs cells slots Qf (F0 m pc ls st))
    (k : zEv p l e R s m args below meth c G A nL Z pc' L' st' ws cu su) : zEv p l e R s m args below meth c G A nL Z pc L st ws cu su := by
  intro H locs ls hP hS hL
  exact h p e R s m args below meth c H locs cu su Z ls hF.1 hF.2.1 hL (fun ls' hL' => k H locs ls' hP hS hL')
theorem z_br (hF : zFix p s m args c own cc nL G A) {pt pf : Nat} {st' : List Value} {cnd : Prop} (h : ∀ (p : Program) (e : Env) (R : Room) (s : State) (m : MethodId) (args : Array Value) (below : List Frame) (meth : Method) (c : Code) (H : Heap) (locs : List Loc) (cells slots : Nat) (Qf : State → Prop) (ls : Array Slot), p.tables.exec = Jvm.exec → c.code = cc → (cnd → W p l e R s m args below meth c H locs cells slots Qf (F0 m pt ls st')) → (¬ cnd → W p l e R s m args below meth c H locs cells slots Qf (F0 m pf ls st')) → W p l e R s m args below meth c H locs cells slots Qf (F0 m pc ls st))
    (kt : cnd → zEv p l e R s m args below meth c G A nL Z pt L st' ws cu su) (kf : ¬ cnd → zEv p l e R s m args below meth c G A nL Z pf L st' ws cu su) : zEv p l e R s m args below meth c G A nL Z pc L st ws cu su := by
  intro H locs ls hP hS hL
  exact h p e R s m args below meth c H locs cu su Z ls hF.1 hF.2.1 (fun q => kt q H locs ls hP hS hL) (fun q => kf q H locs ls hP hS hL)

theorem z_iconst (hF : zFix p s m args c own cc nL G A) {n : Int} {v : Int32} (hv : Int32.ofInt n = v) (hdg : decode cc pc = .ok (.iconst n, 1)) (k : zEv p l e R s m args below meth c G A nL Z (pc + 1) L (.int v :: st) ws cu su) : zEv p l e R s m args below meth c G A nL Z pc L (st) ws cu su := z_row hF (fun _ _ _ _ _ _ _ _ _ _ _ _ _ _ _ hx hb hL kk => lv_iconst hx hb hdg hv kk) k
theorem z_bipush (hF : zFix p s m args c own cc nL G A) {n : Int} {v : Int32} (hv : (Int8.ofInt n).toInt32 = v) (hdg : decode cc pc = .ok (.bipush n, 2)) (k : zEv p l e R s m args below meth c G A nL Z (pc + 2) L (.int v :: st) ws cu su) : zEv p l e R s m args below meth c G A nL Z pc L (st) ws cu su := z_row hF (fun _ _ _ _ _ _ _ _ _ _ _ _ _ _ _ hx hb hL kk => lv_bipush hx hb hdg hv kk) k
theorem z_sipush (hF : zFix p s m args c own cc nL G A) {n : Int} {v : Int32} (hv : (Int16.ofInt n).toInt32 = v) (hdg : decode cc pc = .ok (.sipush n, 3)) (k : zEv p l e R s m args below meth c G A nL Z (pc + 3) L (.int v :: st) ws cu su) : zEv p l e R s m args below meth c G A nL Z pc L (st) ws cu su := z_row hF (fun _ _ _ _ _ _ _ _ _ _ _ _ _ _ _ hx hb hL kk => lv_sipush hx hb hdg hv kk) k
theorem z_iload_n (hF : zFix p s m args c own cc nL G A) {n : Fin 4} {x : Int32} (hv : L[(n : Nat)]? = some (some (.int x))) (hdg : decode cc pc = .ok (.iload_n n, 1)) (k : zEv p l e R s m args below meth c G A nL Z (pc + 1) L (.int x :: st) ws cu su) : zEv p l e R s m args below meth c G A nL Z pc L (st) ws cu su := z_row hF (fun _ _ _ _ _ _ _ _ _ _ _ _ _ _ _ hx hb hL kk => lv_iload_n hx hb hdg rfl (hL.2.2 _ _ hv) kk) k
theorem z_iload (hF : zFix p s m args c own cc nL G A) {i : Nat} {x : Int32} (hv : L[i]? = some (some (.int x))) (hdg : decode cc pc = .ok (.iload i, 2)) (k : zEv p l e R s m args below meth c G A nL Z (pc + 2) L (.int x :: st) ws cu su) : zEv p l e R s m args below meth c G A nL Z pc L (st) ws cu su := z_row hF (fun _ _ _ _ _ _ _ _ _ _ _ _ _ _ _ hx hb hL kk => lv_iload hx hb hdg (hL.2.2 _ _ hv) kk) k
theorem z_aload_n (hF : zFix p s m args c own cc nL G A) {n : Fin 4} {x : Nat} (hv : L[(n : Nat)]? = some (some (.ref x))) (hdg : decode cc pc = .ok (.aload_n n, 1)) (k : zEv p l e R s m args below meth c G A nL Z (pc + 1) L (.ref x :: st) ws cu su) : zEv p l e R s m args below meth c G A nL Z pc L (st) ws cu su := z_row hF (fun _ _ _ _ _ _ _ _ _ _ _ _ _ _ _ hx hb hL kk => lv_aload_n hx hb hdg rfl (hL.2.2 _ _ hv) kk) k
theorem z_aload (hF : zFix p s m args c own cc nL G A) {i : Nat} {x : Nat} (hv : L[i]? = some (some (.ref x))) (hdg : decode cc pc = .ok (.aload i, 2)) (k : zEv p l e R s m args below meth c G A nL Z (pc + 2) L (.ref x :: st) ws cu su) : zEv p l e R s m args below meth c G A nL Z pc L (st) ws cu su := z_row hF (fun _ _ _ _ _ _ _ _ _ _ _ _ _ _ _ hx hb hL kk => lv_aload hx hb hdg (hL.2.2 _ _ hv) kk) k
theorem z_istore (hF : zFix p s m args c own cc nL G A) {i : Nat} {x : Int32} (hn : i < nL) (h2 : fmNo2 L i = true) (hdg : decode cc pc = .ok (.istore i, 2)) (k : zEv p l e R s m args below meth c G A nL Z (pc + 2) (L.set i (some (.int x))) st ws cu su) : zEv p l e R s m args below meth c G A nL Z pc L (.int x :: st) ws cu su := z_rowl hF (fun _ _ _ _ _ _ _ _ _ _ _ _ _ _ _ hx hb hL kk => lv_istore hx hb hdg hL.lv hn rfl (fun ls h => kk ls (fmHas.set1 h h2))) k
theorem z_istore_n (hF : zFix p s m args c own cc nL G A) {n : Fin 4} {x : Int32} (hn : (n : Nat) < nL) (h2 : fmNo2 L (n : Nat) = true) (hdg : decode cc pc = .ok (.istore_n n, 1)) (k : zEv p l e R s m args below meth c G A nL Z (pc + 1) (L.set (n : Nat) (some (.int x))) st ws cu su) : zEv p l e R s m args below meth c G A nL Z pc L (.int x :: st) ws cu su := z_rowl hF (fun _ _ _ _ _ _ _ _ _ _ _ _ _ _ _ hx hb hL kk => lv_istore_n hx hb hdg rfl hL.lv hn rfl (fun ls h => kk ls (fmHas.set1 h h2))) k
theorem z_astore_n (hF : zFix p s m args c own cc nL G A) {n : Fin 4} {x : Nat} (hn : (n : Nat) < nL) (h2 : fmNo2 L (n : Nat) = true) (hdg : decode cc pc = .ok (.astore_n n, 1)) (k : zEv p l e R s m args below meth c G A nL Z (pc + 1) (L.set (n : Nat) (some (.ref x))) st ws cu su) : zEv p l e R s m args below meth c G A nL Z pc L (.ref x :: st) ws cu su := z_rowl hF (fun _ _ _ _ _ _ _ _ _ _ _ _ _ _ _ hx hb hL kk => lv_astore_n hx hb hdg rfl hL.lv hn rfl (fun ls h => kk ls (fmHas.set1 h h2))) k
theorem z_astore (hF : zFix p s m args c own cc nL G A) {i : Nat} {x : Nat} (hn : i < nL) (h2 : fmNo2 L i = true) (hdg : decode cc pc = .ok (.astore i, 2)) (k : zEv p l e R s m args below meth c G A nL Z (pc + 2) (L.set i (some (.ref x))) st ws cu su) : zEv p l e R s m args below meth c G A nL Z pc L (.ref x :: st) ws cu su := z_rowl hF (fun _ _ _ _ _ _ _ _ _ _ _ _ _ _ _ hx hb hL kk => lv_astore hx hb hdg hL.lv hn rfl (fun ls h => kk ls (fmHas.set1 h h2))) k
theorem z_lload (hF : zFix p s m args c own cc nL G A) {i : Nat} {x : Int64} (hv : L[i]? = some (some (.long x))) (hdg : decode cc pc = .ok (.lload i, 2)) (k : zEv p l e R s m args below meth c G A nL Z (pc + 2) L (.long x :: st) ws cu su) : zEv p l e R s m args below meth c G A nL Z pc L (st) ws cu su := z_row hF (fun _ _ _ _ _ _ _ _ _ _ _ _ _ _ _ hx hb hL kk => lv_lload hx hb hdg (hL.2.2 _ _ hv) kk) k
theorem z_lstore (hF : zFix p s m args c own cc nL G A) {i : Nat} {x : Int64} (hn : i + 1 < nL) (h2 : fmNo2 L i = true) (hdg : decode cc pc = .ok (.lstore i, 2)) (k : zEv p l e R s m args below meth c G A nL Z (pc + 2) ((L.set i (some (.long x))).set (i + 1) none) st ws cu su) : zEv p l e R s m args below meth c G A nL Z pc L (.long x :: st) ws cu su := z_rowl hF (fun _ _ _ _ _ _ _ _ _ _ _ _ _ _ _ hx hb hL kk => lv_lstore hx hb hdg hL.lv hn rfl (fun ls h => kk ls (fmHas.set2 h h2))) k
theorem z_i2l (hF : zFix p s m args c own cc nL G A) {x : Int32} (hdg : decode cc pc = .ok (.i2l, 1)) (k : zEv p l e R s m args below meth c G A nL Z (pc + 1) L (.long x.toInt64 :: st) ws cu su) : zEv p l e R s m args below meth c G A nL Z pc L (.int x :: st) ws cu su := z_row hF (fun _ _ _ _ _ _ _ _ _ _ _ _ _ _ _ hx hb hL kk => lv_i2l hx hb hdg rfl kk) k
theorem z_goto (hF : zFix p s m args c own cc nL G A) {off : Int} (tgt : Nat) (ht : (pc : Int) + off = (tgt : Int)) (hdg : decode cc pc = .ok (.goto off, 3)) (k : zEv p l e R s m args below meth c G A nL Z tgt L st ws cu su) : zEv p l e R s m args below meth c G A nL Z pc L st ws cu su := z_row hF (fun _ _ _ _ _ _ _ _ _ _ _ _ _ _ _ hx hb hL kk => lv_goto hx hb hdg ht kk) k
theorem z_dup (hF : zFix p s m args c own cc nL G A) {v : Value} (hc : v.category = 1) (hdg : decode cc pc = .ok (.dup, 1)) (k : zEv p l e R s m args below meth c G A nL Z (pc + 1) L (v :: v :: st) ws cu su) : zEv p l e R s m args below meth c G A nL Z pc L (v :: st) ws cu su := z_row hF (fun _ _ _ _ _ _ _ _ _ _ _ _ _ _ _ hx hb hL kk => lv_dup hx hb hdg hc kk) k
theorem z_isub (hF : zFix p s m args c own cc nL G A) {x z : Int32} (hdg : decode cc pc = .ok (.isub, 1)) (k : zEv p l e R s m args below meth c G A nL Z (pc + 1) L (.int (x - z) :: st) ws cu su) : zEv p l e R s m args below meth c G A nL Z pc L (.int z :: .int x :: st) ws cu su := z_row hF (fun _ _ _ _ _ _ _ _ _ _ _ _ _ _ _ hx hb hL kk => lv_isub hx hb hdg kk) k
theorem z_iadd (hF : zFix p s m args c own cc nL G A) {x z : Int32} (hdg : decode cc pc = .ok (.iadd, 1)) (k : zEv p l e R s m args below meth c G A nL Z (pc + 1) L (.int (x + z) :: st) ws cu su) : zEv p l e R s m args below meth c G A nL Z pc L (.int z :: .int x :: st) ws cu su := z_row hF (fun _ _ _ _ _ _ _ _ _ _ _ _ _ _ _ hx hb hL kk => lv_iadd hx hb hdg kk) k
theorem z_iand (hF : zFix p s m args c own cc nL G A) {x z : Int32} (hdg : decode cc pc = .ok (.iand, 1)) (k : zEv p l e R s m args below meth c G A nL Z (pc + 1) L (.int (x &&& z) :: st) ws cu su) : zEv p l e R s m args below meth c G A nL Z pc L (.int z :: .int x :: st) ws cu su := z_row hF (fun _ _ _ _ _ _ _ _ _ _ _ _ _ _ _ hx hb hL kk => lv_iand hx hb hdg kk) k
theorem z_lcmp (hF : zFix p s m args c own cc nL G A) {x z : Int64} (hdg : decode cc pc = .ok (.lcmp, 1)) (k : zEv p l e R s m args below meth c G A nL Z (pc + 1) L (.int (lg_cmp x z) :: st) ws cu su) : zEv p l e R s m args below meth c G A nL Z pc L (.long z :: .long x :: st) ws cu su := z_row hF (fun _ _ _ _ _ _ _ _ _ _ _ _ _ _ _ hx hb hL kk => W.lcmp hx hb hdg kk) k
theorem z_if_eq (hF : zFix p s m args c own cc nL G A) {x : Int32} {off : Int} (tgt : Nat) (ht : (pc : Int) + off = (tgt : Int)) (hdg : decode cc pc = .ok (.ifCond .eq off, 3)) (kt : x = 0 → zEv p l e R s m args below meth c G A nL Z tgt L st ws cu su) (kf : ¬ (x = 0) → zEv p l e R s m args below meth c G A nL Z (pc + 3) L st ws cu su) : zEv p l e R s m args below meth c G A nL Z pc L (.int x :: st) ws cu su := z_br hF (fun _ _ _ _ _ _ _ _ _ _ _ _ _ _ _ hx hb k1 k2 => lv_if_eq hx hb hdg ht k1 k2) kt kf
theorem z_if_ne (hF : zFix p s m args c own cc nL G A) {x : Int32} {off : Int} (tgt : Nat) (ht : (pc : Int) + off = (tgt : Int)) (hdg : decode cc pc = .ok (.ifCond .ne off, 3)) (kt : ¬ x = 0 → zEv p l e R s m args below meth c G A nL Z tgt L st ws cu su) (kf : x = 0 → zEv p l e R s m args below meth c G A nL Z (pc + 3) L st ws cu su) : zEv p l e R s m args below meth c G A nL Z pc L (.int x :: st) ws cu su := z_br hF (fun _ _ _ _ _ _ _ _ _ _ _ _ _ _ _ hx hb k1 k2 => lv_if_ne hx hb hdg ht k2 k1) kf kt
theorem z_icmp_eq (hF : zFix p s m args c own cc nL G A) {x z : Int32} {off : Int} (tgt : Nat) (ht : (pc : Int) + off = (tgt : Int)) (hdg : decode cc pc = .ok (.if_icmp .eq off, 3)) (kt : x = z → zEv p l e R s m args below meth c G A nL Z tgt L st ws cu su) (kf : ¬ (x = z) → zEv p l e R s m args below meth c G A nL Z (pc + 3) L st ws cu su) : zEv p l e R s m args below meth c G A nL Z pc L (.int z :: .int x :: st) ws cu su := z_br hF (fun _ _ _ _ _ _ _ _ _ _ _ _ _ _ _ hx hb k1 k2 => lv_icmp_eq hx hb hdg ht k1 k2) kt kf
theorem z_icmp_ne (hF : zFix p s m args c own cc nL G A) {x z : Int32} {off : Int} (tgt : Nat) (ht : (pc : Int) + off = (tgt : Int)) (hdg : decode cc pc = .ok (.if_icmp .ne off, 3)) (kt : ¬ x = z → zEv p l e R s m args below meth c G A nL Z tgt L st ws cu su) (kf : x = z → zEv p l e R s m args below meth c G A nL Z (pc + 3) L st ws cu su) : zEv p l e R s m args below meth c G A nL Z pc L (.int z :: .int x :: st) ws cu su := z_br hF (fun _ _ _ _ _ _ _ _ _ _ _ _ _ _ _ hx hb k1 k2 => lv_icmp_ne hx hb hdg ht k2 k1) kf kt
theorem z_icmp_gt (hF : zFix p s m args c own cc nL G A) {x z : Int32} {off : Int} (tgt : Nat) (ht : (pc : Int) + off = (tgt : Int)) (hdg : decode cc pc = .ok (.if_icmp .gt off, 3)) (kt : z < x → zEv p l e R s m args below meth c G A nL Z tgt L st ws cu su) (kf : ¬ (z < x) → zEv p l e R s m args below meth c G A nL Z (pc + 3) L st ws cu su) : zEv p l e R s m args below meth c G A nL Z pc L (.int z :: .int x :: st) ws cu su := z_br hF (fun _ _ _ _ _ _ _ _ _ _ _ _ _ _ _ hx hb k1 k2 => lv_icmp_gt hx hb hdg ht k1 k2) kt kf
theorem z_iinc (hF : zFix p s m args c own cc nL G A) {i : Nat} {n : Int} {x v : Int32} (hl : L[i]? = some (some (.int x))) (hv : x + Int32.ofInt n = v) (hn : i < nL) (h2 : fmNo2 L i = true) (hdg : decode cc pc = .ok (.iinc i n, 3)) (k : zEv p l e R s m args below meth c G A nL Z (pc + 3) (L.set i (some (.int v))) st ws cu su) : zEv p l e R s m args below meth c G A nL Z pc L st ws cu su := by
  obtain ⟨k9, hk9⟩ := fm_lvk hl
  exact z_rowl hF (fun _ _ _ _ _ _ _ _ _ _ _ _ _ _ _ hx hb hL kk => lv_iinc hx hb hdg hL.lv hk9 hv hn rfl (fun ls h => kk ls (fmHas.set1 h h2))) k
theorem z_iloadn (hF : zFix p s m args c own cc nL G A) {n : Fin 4} {x : Int32} (i : Nat) (hi : (n : Nat) = i) (hv : L[i]? = some (some (.int x))) (hdg : decode cc pc = .ok (.iload_n n, 1)) (k : zEv p l e R s m args below meth c G A nL Z (pc + 1) L (.int x :: st) ws cu su) : zEv p l e R s m args below meth c G A nL Z pc L st ws cu su := z_iload_n hF (by rw [hi]; exact hv) hdg k
theorem z_aloadn (hF : zFix p s m args c own cc nL G A) {n : Fin 4} {x : Nat} (i : Nat) (hi : (n : Nat) = i) (hv : L[i]? = some (some (.ref x))) (hdg : decode cc pc = .ok (.aload_n n, 1)) (k : zEv p l e R s m args below meth c G A nL Z (pc + 1) L (.ref x :: st) ws cu su) : zEv p l e R s m args below meth c G A nL Z pc L st ws cu su := z_aload_n hF (by rw [hi]; exact hv) hdg k
theorem z_astoren (hF : zFix p s m args c own cc nL G A) {n : Fin 4} {x : Nat} (i : Nat) (hi : (n : Nat) = i) (hn : i < nL) (h2 : fmNo2 L i = true) (hdg : decode cc pc = .ok (.astore_n n, 1)) (k : zEv p l e R s m args below meth c G A nL Z (pc + 1) (L.set i (some (.ref x))) st ws cu su) : zEv p l e R s m args below meth c G A nL Z pc L (.ref x :: st) ws cu su := by
  subst hi; exact z_astore_n hF hn h2 hdg k
theorem z_table (hF : zFix p s m args c own cc nL G A) {dflt lo hi : Int} {offs : Array Int} {len : Nat} {x : Int32} (tgt : Nat) (hsz : offs.size = (hi - lo + 1).toNat) (ht : fmTsw pc dflt lo hi offs x = (tgt : Int)) (hdg : decode cc pc = .ok (.tableswitch dflt lo hi offs, len)) (k : zEv p l e R s m args below meth c G A nL Z tgt L st ws cu su) : zEv p l e R s m args below meth c G A nL Z pc L (.int x :: st) ws cu su := by
  unfold fmTsw at ht
  by_cases h : x.toInt < lo ∨ hi < x.toInt
  · rw [if_pos h] at ht
    exact z_row hF (fun _ _ _ _ _ _ _ _ _ _ _ _ _ _ _ hx hb hL kk => lv_tableOut hx hb hdg h ht kk) k
  · rw [if_neg h] at ht
    have h1 : ¬ x.toInt < lo := fun q => h (Or.inl q)
    have h2 : ¬ hi < x.toInt := fun q => h (Or.inr q)
    have h3 : (x.toInt - lo).toNat < offs.size := by omega
    have h4 : offs[(x.toInt - lo).toNat]? = some (offs.getD (x.toInt - lo).toNat 0) := by simp [h3]
    exact z_row hF (fun _ _ _ _ _ _ _ _ _ _ _ _ _ _ _ hx hb hL kk => lv_tableIn hx hb hdg h1 h2 h4 ht kk) k
theorem z_iincc (hF : zFix p s m args c own cc nL G A) (i : Nat) {n : Int} {x : Int32} (c9 : Int32) (hc : Int32.ofInt n = c9) (hl : L[i]? = some (some (.int x))) (hn : i < nL) (h2 : fmNo2 L i = true) (hdg : decode cc pc = .ok (.iinc i n, 3)) (k : zEv p l e R s m args below meth c G A nL Z (pc + 3) (L.set i (some (.int (x + c9)))) st ws cu su) : zEv p l e R s m args below meth c G A nL Z pc L st ws cu su := z_iinc hF hl (by rw [hc]) hn h2 hdg k
theorem z_more {cu' su' : Nat} (h1 : cu ≤ cu') (h2 : su ≤ su') (k : zEv p l e R s m args below meth c G A nL Z pc L st ws cu' su') : zEv p l e R s m args below meth c G A nL Z pc L st ws cu su := by
  intro H locs ls hP hS hL
  exact W.widen h1 h2 (k H locs ls hP hS hL)
theorem z_perm {ws' : va_W} (h : ws.Perm ws') (k : zEv p l e R s m args below meth c G A nL Z pc L st ws' cu su) : zEv p l e R s m args below meth c G A nL Z pc L st ws cu su := by
  intro H locs ls hP hS hL
  exact k H locs ls ⟨hP.1.perm h, hP.2.perm h⟩ hS hL
/-- a method of the flat machine called; it returns or throws -/
theorem z_callX (hF : zFix p s m args c own cc nL G A) {T : fmT} {g : Nat → Nat} {M : fmM} {rest : va_W} {k ci d' idx n : Nat} {y' : fmY} {As st0 : List Value} (hc : fmCv own idx y' n ci) (hk : k < T.1) (hkd : T.2.1 k = ci + 6) (hn : As.length = n) (hst0 : st0 = As.reverse ++ .ref (g k) :: st) (hcat : (st.map fun v => v.category).sum ≤ 8) (hfr : d' + 10 + 1 ≤ R.frames) (hlo : 8 + (y'.2.2.1 + 11) + (60 * d' + 200) ≤ R.locals) (hcu : cu + 1 ≤ R.cells) (hsu : su + 6 ≤ R.slots) (hdg : decode cc pc = .ok (.invokevirtual idx, 3))
    (hg : fmGood T l (g, G.2) d' y' (.ref (g k) :: As) M (fun o M' => match o with
      | .inl v => zEv p l e R s m args below meth c G A nL Z (pc + 3) L (v.toList ++ st) (fmL T (g, G.2) M' ++ rest) cu su
      | .inr E => zEx p l e R s m args below meth c G A nL Z pc L st (fmL T (g, G.2) M' ++ rest) (cu + 1) (su + 6) E)) : zEv p l e R s m args below meth c G A nL Z pc L st0 (fmL T (g, G.2) M ++ rest) cu su := by
  subst hst0
  obtain ⟨o, M', hq, hM⟩ := hg
  intro H locs ls hP hS hL
  obtain ⟨hx, hb, hml, hown, hts, hE, hA⟩ := id hF
  obtain ⟨hcb, hci, hcs, r, hr1, hr2⟩ := hc
  have hEg : fmEnv (g, G.2) A s := hE.1
  have hPg : fmPic T (g, G.2) A M rest H := hP
  have hrecv := va_recv (s := s) hEg.1 hPg.1 hr1 (fmL_obj hk hkd)
  have hB : CallB R s args own idx y'.1 y'.2.1 y'.2.2.1 y'.2.2.2 (fmWy y') (fmRm d' o) (fmMc o) (fmMs o) n := by
    refine callB_of (Ts := fmWs) n hts ?_ rfl rfl rfl (hts _ hcb.2.1) (hts _ hcb.1) hcb.2.2.2.1 ⟨hfr, hlo⟩
    intro w hw
    rcases List.mem_cons.mp hw with e | h
    · rw [e]; exact ⟨hcb.2.2.1, good_of_word (fmWs_good hcb.2.2.1)⟩
    · exact ⟨h, good_of_word (fmWs_good h)⟩
  have hr : vx_Run p l e R s m args below meth c H locs cu su (fmMc o) (fmMs o) (F0 m pc ls (As.reverse ++ .ref (g k) :: st)) st (fmQc T (g, G.2) A M' rest o (Value.ref (g k) :: As).toArray) (fmXC T (g, G.2) A M' rest o) A :=
    vx_runV (C := y'.1.cls) (As := As) (rest := st) ⟨hx, hb, hml, hown, hts⟩ (hM A rest) ⟨hB, hts _ hci, hts _ hcs⟩ ⟨fmPc.blind, by rw [← hr2]; exact hrecv, fun U hU hW => fm_pre hEg hA hPg hS hU hW⟩ rfl hn hL.1 rfl (lv_room hcat) hdg ⟨by cases o <;> simp [fmMc] <;> omega, by cases o <;> simp [fmMs] <;> omega⟩
  intro Tm hT X
  rcases hr Tm hT X with ⟨v', st₀, t, T', L', h0, X', hL', e1, e2, ⟨⟨v2, hv1, hv2⟩, hP', hF'⟩, stp⟩ | ⟨q, st₀, t, T', L', E, ce, h0, X', hL', e1, e2, ⟨hx9, hP', hF'⟩, hce, hcv, hcl, stp⟩
  · cases hv1
    cases hv2
    obtain ⟨k1, k2, k3⟩ := vx_keep h0 e1 hS (fun _ _ h => h) (fun _ h => h) hL' hF'
    obtain ⟨t2, a1, b1⟩ := hq T'.heap (locs ++ L') ls (by rw [e1]; exact hP') k3 hL T' rfl X'
    exact ⟨t2, stp t2 a1, b1⟩
  · cases hx9
    obtain ⟨k1, k2, k3⟩ := vx_keep h0 e1 hS (fun _ _ h => h) (fun _ h => h) hL' hF'
    obtain ⟨t2, a1, b1⟩ := hq T'.heap (locs ++ L') ls q ce (by rw [e1]; exact hP') k3 hL (by rw [e1]; exact hce) hcv hcl T' rfl X'
    exact ⟨t2, stp.trans a1, b1⟩
theorem z_catch (hF : zFix p s m args c own cc nL G A) {E name : String} (pre : List ExceptionTableEntry) (x : ExceptionTableEntry) (suf : List ExceptionTableEntry) (hsplit : c.exceptionTable.toList = pre ++ x :: suf) (hpass : ∀ z ∈ pre, covers z pc = false ∨ (z.catchType ≠ 0 ∧ ∃ nm : String, Cond.classLink own z.catchType nm ∈ fmWs ∧ va_Nc E nm s)) (hcv : covers x pc = true) (h0 : x.catchType ≠ 0) (hlink : Cond.classLink own x.catchType name ∈ fmWs) (hcast : fmCa E name s)
    (kk : ∀ q : Nat, zEv p l e R s m args below meth c G A nL Z x.handlerPc L [.ref q] ws cu su) : zEx p l e R s m args below meth c G A nL Z pc L st ws cu su E := by
  intro H locs ls q ce hP hS hL hce hcv9 hcl
  exact vx_catch hF.2.2.2.1 pre x suf hsplit (fun z hz => (hpass z hz).imp id (fun ⟨h1, nm, h2, h3⟩ => ⟨h1, nm, hF.2.2.2.2.1 _ h2, h3⟩)) hcv h0 (hF.2.2.2.2.1 _ hlink) hcast.use hce hcv9 hcl (kk q H locs ls hP hS hL)
/-- the one long of 'out' -/
theorem z_last (hF : zFix p s m args c own cc nL G A) {w0 w1 : va_W} {a : Nat} {f : Nat → Int64} {x : Int64} (hdg : decode cc pc = .ok (.lastore, 1))
    (kk : zEv p l e R s m args below meth c G A nL Z (pc + 1) L st (w0 ++ ((a, .inl (G.2.2.1 1, 1, .inr (.inl (vp_updL f 0 x)))) :: w1)) cu su) : zEv p l e R s m args below meth c G A nL Z pc L (.long x :: .int 0 :: .ref a :: st) (w0 ++ ((a, .inl (G.2.2.1 1, 1, .inr (.inl f))) :: w1)) cu su := by
  intro H locs ls hP hS hL
  have hi : (w0 ++ ((a, .inl (G.2.2.1 1, 1, .inr (.inl f))) :: w1) : va_W)[w0.length]? = some (a, .inl (G.2.2.1 1, 1, .inr (.inl f))) := by
    rw [List.getElem?_append_right (Nat.le_refl _), Nat.sub_self]; rfl
  have hset : ∀ x9, (w0 ++ ((a, .inl (G.2.2.1 1, 1, .inr (.inl f))) :: w1) : va_W).set w0.length x9 = w0 ++ (x9 :: w1) := by
    intro x9
    rw [List.set_append_right _ _ (Nat.le_refl _), Nat.sub_self]; rfl
  refine va_last hF.1 hF.2.1 hF.2.2.2.2.2.1.1.1 hP.1 hP.2 hS w0.length 1 hi rfl (fm_inl (by decide)) hdg (fun H1 locs1 hP1 hD1 hS1 => ?_)
  rw [hset] at hP1 hD1
  exact kk H1 locs1 ls ⟨hP1, hD1⟩ hS1 hL
theorem z_lald (hF : zFix p s m args c own cc nL G A) {w0 w1 : va_W} {a : Nat} {f : Nat → Int64} (hdg : decode cc pc = .ok (.laload, 1))
    (kk : zEv p l e R s m args below meth c G A nL Z (pc + 1) L (.long (f 0) :: st) (w0 ++ ((a, .inl (G.2.2.1 1, 1, .inr (.inl f))) :: w1)) cu su) : zEv p l e R s m args below meth c G A nL Z pc L (.int 0 :: .ref a :: st) (w0 ++ ((a, .inl (G.2.2.1 1, 1, .inr (.inl f))) :: w1)) cu su := by
  intro H locs ls hP hS hL
  have hi : (w0 ++ ((a, .inl (G.2.2.1 1, 1, .inr (.inl f))) :: w1) : va_W)[w0.length]? = some (a, .inl (G.2.2.1 1, 1, .inr (.inl f))) := by
    rw [List.getElem?_append_right (Nat.le_refl _), Nat.sub_self]; rfl
  exact va_lald hF.1 hF.2.1 hF.2.2.2.2.2.1.1.1 hP.1 w0.length 1 hi rfl (fm_inl (by decide)) hdg (kk H locs ls hP hS hL)
end ZRows
/-- a wrapper: its answer, and what it leaves (the class's memory, the long of 'out') -/
def zGood (l : Launch) (G : fmG) (y : fmY) (hh : List (Nat × Nat × Nat × Nat)) (args : List Value) (W0 : va_W) (WW : fmM × (Nat → Int64) → va_W) (Q : Int32 → fmM × (Nat → Int64) → Prop) : Prop := ∀ A : Nat → Prop, Met l y.1 (Cond.codeWith y.1 y.2.1 y.2.2.1 y.2.2.2 hh :: fmWs) (lwRm 300 1 6) (lwPc G args W0 A) (va_Qi Q (fun u t => lwPic G A (WW u) t.heap) A) 1 6 A
theorem zGood_of {l : Launch} {G : fmG} {y : fmY} {hh : List (Nat × Nat × Nat × Nat)} {args : List Value} {W0 : va_W} {WW : fmM × (Nat → Int64) → va_W} {Q : Int32 → fmM × (Nat → Int64) → Prop} (hn : plainName y.1.cls = true) (hret : y.2.2.2 = some .int) (hlen : (lg_sl args).length ≤ y.2.2.1)
    (k : ∀ (p : Program) (e : Env) (s : State) (m : MethodId) (args' : Array Value) (below : List Frame) (meth : Method) (c : Code) (A : Nat → Prop), zFix p s m args' c y.1.cls y.2.1 y.2.2.1 G A → c.exceptionTable.toList = tableOf hh → meth.sig.returnType = some .int → meth.locks = false → zEv p l e (lwRm 300 1 6) s m args' below meth c G A y.2.2.1 (MQ below (va_Qi Q (fun u t => lwPic G A (WW u) t.heap) A) args' s 1 6 A) 0 (fmArgs args ++ List.replicate (y.2.2.1 - (fmArgs args).length) none) [] W0 0 0) : zGood l G y hh args W0 WW Q := by
  intro A
  refine va_MetW (cc := y.2.1) (maxL := y.2.2.1) (ret := y.2.2.2) (hh := hh) hn rfl ?_
  intro p e s m args' below meth c s₁ B hml hv
  obtain ⟨rfl, hE, hA, hP⟩ := hv
  have hx := B.exec
  have hb := B.bytes
  have hr := B.returns
  have hts := atoms_spec (ws := Cond.codeWith y.1 y.2.1 y.2.2.1 y.2.2.2 hh :: fmWs) B.pre
  have hown : s.vm.findClass y.1.cls = some m.cls := findClass_of_methodNamed B.named
  have hlocks := B.notSynchronized
  have htab := vx_table (x := y.1) B (hts _ List.mem_cons_self)
  have hl0 := lv_entry args (n := y.2.2.1) hlen
  rw [lg_entry_eq]
  generalize (lg_sl args ++ List.replicate (y.2.2.1 - (lg_sl args).length) Slot.unset).toArray = ls at hl0 ⊢
  refine k p e s m args.toArray below meth c A ⟨hx, hb, hml, hown, fun w h => hts w (List.mem_cons_of_mem _ h), hE, hA⟩ htab (hr.trans hret) hlocks s.heap [] ls hP va_S.rf ⟨hl0.1, hl0.2.1, fun i v hi => ?_⟩
  have h1 : (fmArgs args)[i]? = some (some v) := by
    rcases Nat.lt_or_ge i (fmArgs args).length with q | q
    · rwa [List.getElem?_append_left q] at hi
    · rw [List.getElem?_append_right q] at hi
      have := List.mem_of_getElem? hi
      simp at this
  have h2 := fmArgs_lv args 0 i v h1
  rw [Nat.zero_add] at h2
  exact hl0.2.2 (i, v) h2
section ZRows2
variable {p : Program} {l : Launch} {e : Env} {R : Room} {s : State} {m : MethodId} {args : Array Value} {below : List Frame} {meth : Method} {c : Code} {own : String} {cc : ByteArray} {nL : Nat} {G : fmG} {A : Nat → Prop} {Z : State → Prop} {pc : Nat} {L : List (Option Value)} {st : List Value} {ws : va_W} {cu su : Nat}
theorem z_iret (hF : zFix p s m args c own cc nL G A) {WW : fmM × (Nat → Int64) → va_W} {Q : Int32 → fmM × (Nat → Int64) → Prop} {v : Int32} (u : fmM × (Nat → Int64)) (hr : meth.sig.returnType = some .int) (hlocks : meth.locks = false) (hc : cu ≤ 1) (hs : su ≤ 6) (hdg : decode cc pc = .ok (.ireturn, 1)) (hq : Q v u) : zEv p l e R s m args below meth c G A nL (MQ below (va_Qi Q (fun u t => lwPic G A (WW u) t.heap) A) args s 1 6 A) pc L [.int v] (WW u) cu su := by
  refine z_more hc hs ?_
  intro H locs ls hP hS hL
  exact W.iret hF.1 hF.2.1 hr (fun t ht hW => ⟨⟨v, u, rfl, hq, by show lwPic G A (WW u) t.heap; rw [ht]; exact hP⟩, hS.F ht⟩) hS.2.2 hdg hlocks
theorem z_callW (hF : zFix p s m args c own cc nL G A) {y' : fmY} {hh : List (Nat × Nat × Nat × Nat)} {idx n : Nat} {As st0 : List Value} {W0 : va_W} {WW : fmM × (Nat → Int64) → va_W} {Q : Int32 → fmM × (Nat → Int64) → Prop} (hlink : Cond.methodLink own idx y'.1 ∈ fmWs) (hstat : Cond.static y'.1 ∈ fmWs) (hini : Cond.initialized y'.1.cls ∈ fmWs) (hcode : Cond.codeWith y'.1 y'.2.1 y'.2.2.1 y'.2.2.2 hh ∈ fmWs) (hd : y'.1.cls ≠ "java/lang/invoke/MethodHandle" ∧ y'.1.cls ≠ "java/lang/invoke/VarHandle" ∧ (parseMethodDescriptor y'.1.desc).map (fun d => d.parameters.length) = some n) (hn : As.length = n) (hst0 : st0 = As.reverse ++ st) (hcat : (st.map fun v => v.category).sum ≤ 8) (hfr : 311 ≤ R.frames) (hlo : 8 + (y'.2.2.1 + 11) + 18200 ≤ R.locals) (hcu : cu + 1 ≤ R.cells) (hsu : su + 6 ≤ R.slots) (hdg : decode cc pc = .ok (.invokestatic idx, 3)) (hg : zGood l G y' hh As W0 WW Q)
    (kk : ∀ (r : Int32) (u : fmM × (Nat → Int64)), Q r u → zEv p l e R s m args below meth c G A nL Z (pc + 3) L (.int r :: st) (WW u) (cu + 1) (su + 6)) : zEv p l e R s m args below meth c G A nL Z pc L st0 W0 cu su := by
  subst hst0
  intro H locs ls hP hS hL
  obtain ⟨hx, hb, hml, hown, hts, hE, hA⟩ := id hF
  have cw : vx_CSW R s args own idx y'.1 y'.2.1 y'.2.2.1 y'.2.2.2 hh (Cond.codeWith y'.1 y'.2.1 y'.2.2.1 y'.2.2.2 hh :: fmWs) (lwRm 300 1 6) 1 6 n := by
    refine ⟨⟨rfl, rfl, hfr, hlo, pay_in hts ?_, List.mem_cons_self⟩, hts _ hcode, hts _ hini, ⟨hd.1, hd.2.1⟩, fun sig h => ?_, hts _ hlink, hts _ hstat⟩
    · intro w hw
      rcases List.mem_cons.mp hw with e | h
      · rw [e]; exact ⟨hcode, good_of_word (fmWs_good hcode)⟩
      · exact ⟨h, good_of_word (fmWs_good h)⟩
    · have h2 := hd.2.2
      rw [h] at h2
      exact (Option.some.inj h2).symm
  refine va_calli (vx_runSW (As := As) (rest := st) ⟨hx, hb, hml, hown, hts⟩ (hg A) cw ⟨lwPc.blind, fun U hU hW => ⟨rfl, hE.warm hS hU hW, fun q h => hA q (Nat.le_trans hS.1 (by rw [← hU]; exact h)), by rw [hU]; exact hP⟩⟩ rfl hn hL.1 rfl (lv_room hcat) hdg ⟨hcu, hsu⟩) hS (fun _ _ h => h) (fun _ h => h) (fun r u t H1 locs1 ht hvm hq hB hz hk hS1 => ?_)
  rw [ht] at hB
  exact kk r u hq H1 locs1 ls hB hS1 hL
end ZRows2
