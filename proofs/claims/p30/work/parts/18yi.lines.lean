-- ROOM: how much may be put where, by one key: worth by 65536, less the ways
/-- one life more: nothing, 3 bytes, or as many as it is worth -/
def rmO (h : Bool) (w : Nat) (s : Int) (f : Nat → Int) (l : Nat) : Int :=
  max (max (f l) (if h = true ∧ 3 ≤ l then f (l - 3) + ((w : Int) * 65536 - s) else f l)) (if h = true ∧ w ≤ l then f (l - w) + (3 * (w : Int) * 65536 - 2 * s) else f l)
theorem rm_0 {h : Bool} {w : Nat} {s : Int} {f : Nat → Int} {l : Nat} : f l ≤ rmO h w s f l := by
  unfold rmO
  omega
theorem rm_3 {h : Bool} {w : Nat} {s : Int} {f : Nat → Int} {l : Nat} (hh : h = true) (hl : 3 ≤ l) : f (l - 3) + ((w : Int) * 65536 - s) ≤ rmO h w s f l := by
  unfold rmO
  rw [if_pos ⟨hh, hl⟩]
  omega
theorem rm_w {h : Bool} {w : Nat} {s : Int} {f : Nat → Int} {l : Nat} (hh : h = true) (hl : w ≤ l) : f (l - w) + (3 * (w : Int) * 65536 - 2 * s) ≤ rmO h w s f l := by
  unfold rmO
  rw [if_pos (⟨hh, hl⟩ : h = true ∧ w ≤ l)]
  omega
theorem rm_le {h : Bool} {w : Nat} {s : Int} {f : Nat → Int} {l : Nat} {T : Int} (h0 : f l ≤ T) (h3 : h = true → 3 ≤ l → f (l - 3) + ((w : Int) * 65536 - s) ≤ T) (hw : h = true → w ≤ l → f (l - w) + (3 * (w : Int) * 65536 - 2 * s) ≤ T) : rmO h w s f l ≤ T := by
  unfold rmO
  refine Int.max_le.mpr ⟨Int.max_le.mpr ⟨h0, ?_⟩, ?_⟩
  · by_cases c : h = true ∧ 3 ≤ l
    · rw [if_pos c]
      exact h3 c.1 c.2
    · rw [if_neg c]
      exact h0
  · by_cases c : h = true ∧ w ≤ l
    · rw [if_pos c]
      exact hw c.1 c.2
    · rw [if_neg c]
      exact h0
theorem rm_f {w : Nat} {s : Int} {f : Nat → Int} {l : Nat} : rmO false w s f l = f l := Int.le_antisymm (rm_le (Int.le_refl _) (fun h => absurd h (by decide)) (fun h => absurd h (by decide))) rm_0
theorem rm_half {ha hb : Bool} {wa wb : Nat} {sa sb : Int} {f : Nat → Int} {l : Nat} : rmO ha wa sa (rmO hb wb sb f) l ≤ rmO hb wb sb (rmO ha wa sa f) l := by
  refine rm_le (rm_le ?_ (fun hb9 l9 => ?_) (fun hb9 l9 => ?_)) (fun ha9 k9 => ?_) (fun ha9 k9 => ?_)
  · exact Int.le_trans (rm_0 (f := f)) rm_0
  · have h1 := rm_3 (w := wb) (s := sb) (f := rmO ha wa sa f) hb9 l9
    have h2 : f (l - 3) ≤ rmO ha wa sa f (l - 3) := rm_0
    omega
  · have h1 := rm_w (w := wb) (s := sb) (f := rmO ha wa sa f) hb9 l9
    have h2 : f (l - wb) ≤ rmO ha wa sa f (l - wb) := rm_0
    omega
  · have hx : rmO hb wb sb f (l - 3) ≤ rmO hb wb sb (rmO ha wa sa f) l - ((wa : Int) * 65536 - sa) := by
      refine rm_le ?_ (fun hb9 l9 => ?_) (fun hb9 l9 => ?_)
      · have h1 := rm_3 (w := wa) (s := sa) (f := f) ha9 k9
        have h2 : rmO ha wa sa f l ≤ rmO hb wb sb (rmO ha wa sa f) l := rm_0
        omega
      · have h1 := rm_3 (w := wb) (s := sb) (f := rmO ha wa sa f) hb9 (show 3 ≤ l by omega)
        have h2 := rm_3 (w := wa) (s := sa) (f := f) ha9 l9
        omega
      · have h1 := rm_w (w := wb) (s := sb) (f := rmO ha wa sa f) hb9 (show wb ≤ l by omega)
        have h2 := rm_3 (w := wa) (s := sa) (f := f) ha9 (show 3 ≤ l - wb by omega)
        rw [show l - wb - 3 = l - 3 - wb by omega] at h2
        omega
    omega
  · have hx : rmO hb wb sb f (l - wa) ≤ rmO hb wb sb (rmO ha wa sa f) l - (3 * (wa : Int) * 65536 - 2 * sa) := by
      refine rm_le ?_ (fun hb9 l9 => ?_) (fun hb9 l9 => ?_)
      · have h1 := rm_w (w := wa) (s := sa) (f := f) ha9 k9
        have h2 : rmO ha wa sa f l ≤ rmO hb wb sb (rmO ha wa sa f) l := rm_0
        omega
      · have h1 := rm_3 (w := wb) (s := sb) (f := rmO ha wa sa f) hb9 (show 3 ≤ l by omega)
        have h2 := rm_w (w := wa) (s := sa) (f := f) ha9 (show wa ≤ l - 3 by omega)
        rw [show l - 3 - wa = l - wa - 3 by omega] at h2
        omega
      · have h1 := rm_w (w := wb) (s := sb) (f := rmO ha wa sa f) hb9 (show wb ≤ l by omega)
        have h2 := rm_w (w := wa) (s := sa) (f := f) ha9 (show wa ≤ l - wb by omega)
        rw [show l - wb - wa = l - wa - wb by omega] at h2
        omega
    omega
theorem rm_comm {ha hb : Bool} {wa wb : Nat} {sa sb : Int} {f : Nat → Int} {l : Nat} : rmO ha wa sa (rmO hb wb sb f) l = rmO hb wb sb (rmO ha wa sa f) l := Int.le_antisymm rm_half rm_half
def rmS (i : Nat) : Nat := 4 ^ (7 - i)
/-- the best key of m lives from the i'th on, with l bytes -/
def rmK (hs : Nat → Bool) (ws : Nat → Nat) : Nat → Nat → Nat → Int
  | 0, _, _ => 0
  | m + 1, i, l => rmO (hs i) (ws i) (rmS i : Int) (rmK hs ws m (i + 1)) l
theorem rmK_last {hs : Nat → Bool} {ws : Nat → Nat} : ∀ (m i : Nat), rmK hs ws (m + 1) i = rmO (hs (i + m)) (ws (i + m)) (rmS (i + m) : Int) (rmK hs ws m i) := by
  intro m
  induction m with
  | zero =>
    intro i
    rfl
  | succ m ih =>
    intro i
    funext l
    show rmO (hs i) (ws i) (rmS i : Int) (rmK hs ws (m + 1) (i + 1)) l = _
    rw [ih (i + 1), show i + 1 + m = i + (m + 1) by omega, rm_comm]
    rfl
theorem rmS_4 : ∀ i, i < 8 → 4 ^ (8 - i) = 4 * rmS i := by decide
theorem rmS_8 : ∀ i, i < 8 → rmS i ≤ 16384 := by decide
/-- a key is so much worth less the ways -/
theorem rmK_form {hs : Nat → Bool} {ws : Nat → Nat} {N : Nat} (hN : N ≤ 8) (hw : ∀ i, i < N → 1 ≤ ws i ∧ ws i ≤ 99) : ∀ (m i l : Nat), i + m ≤ N → ∃ wt c : Nat, rmK hs ws m i l = (wt : Int) * 65536 - (c : Int) ∧ c < 4 ^ (8 - i) ∧ wt ≤ 297 * m := by
  intro m
  induction m with
  | zero =>
    intro i l _
    exact ⟨0, 0, rfl, Nat.pow_pos (by decide), by omega⟩
  | succ m ih =>
    intro i l him
    have h4 := rmS_4 i (by omega)
    have e7 : 8 - (i + 1) = 7 - i := by omega
    have hS : 4 ^ (8 - (i + 1)) = rmS i := by rw [e7]; rfl
    obtain ⟨w0, c0, a0, b0, d0⟩ := ih (i + 1) l (by omega)
    obtain ⟨w1, c1, a1, b1, d1⟩ := ih (i + 1) (l - 3) (by omega)
    obtain ⟨w2, c2, a2, b2, d2⟩ := ih (i + 1) (l - ws i) (by omega)
    rw [hS] at b0 b1 b2
    have hwi := hw i (by omega)
    show ∃ wt c : Nat, rmO (hs i) (ws i) (rmS i : Int) (rmK hs ws m (i + 1)) l = _ ∧ _
    have h3 : (if hs i = true ∧ 3 ≤ l then rmK hs ws m (i + 1) (l - 3) + ((ws i : Int) * 65536 - (rmS i : Int)) else rmK hs ws m (i + 1) l) = ((w1 + ws i : Nat) : Int) * 65536 - ((c1 + rmS i : Nat) : Int) ∨ (if hs i = true ∧ 3 ≤ l then rmK hs ws m (i + 1) (l - 3) + ((ws i : Int) * 65536 - (rmS i : Int)) else rmK hs ws m (i + 1) l) = (w0 : Int) * 65536 - (c0 : Int) := by
      split
      · exact Or.inl (by rw [a1]; omega)
      · exact Or.inr a0
    have h5 : (if hs i = true ∧ ws i ≤ l then rmK hs ws m (i + 1) (l - ws i) + (3 * (ws i : Int) * 65536 - 2 * (rmS i : Int)) else rmK hs ws m (i + 1) l) = ((w2 + 3 * ws i : Nat) : Int) * 65536 - ((c2 + 2 * rmS i : Nat) : Int) ∨ (if hs i = true ∧ ws i ≤ l then rmK hs ws m (i + 1) (l - ws i) + (3 * (ws i : Int) * 65536 - 2 * (rmS i : Int)) else rmK hs ws m (i + 1) l) = (w0 : Int) * 65536 - (c0 : Int) := by
      split
      · exact Or.inl (by rw [a2]; omega)
      · exact Or.inr a0
    have hmx : ∀ a b : Int, max a b = a ∨ max a b = b := fun a b => by omega
    unfold rmO
    rcases hmx (max (rmK hs ws m (i + 1) l) (if hs i = true ∧ 3 ≤ l then rmK hs ws m (i + 1) (l - 3) + ((ws i : Int) * 65536 - (rmS i : Int)) else rmK hs ws m (i + 1) l)) (if hs i = true ∧ ws i ≤ l then rmK hs ws m (i + 1) (l - ws i) + (3 * (ws i : Int) * 65536 - 2 * (rmS i : Int)) else rmK hs ws m (i + 1) l) with e | e
    · rw [e]
      rcases hmx (rmK hs ws m (i + 1) l) (if hs i = true ∧ 3 ≤ l then rmK hs ws m (i + 1) (l - 3) + ((ws i : Int) * 65536 - (rmS i : Int)) else rmK hs ws m (i + 1) l) with e | e
      · rw [e]
        exact ⟨w0, c0, a0, by omega, by omega⟩
      · rw [e]
        rcases h3 with h | h
        · exact ⟨_, _, h, by omega, by omega⟩
        · exact ⟨_, _, h, by omega, by omega⟩
    · rw [e]
      rcases h5 with h | h
      · exact ⟨_, _, h, by omega, by omega⟩
      · exact ⟨_, _, h, by omega, by omega⟩
/-- the worth and the ways of a key -/
def wtK (K : Int) : Int := (K + 65535) / 65536
def cdK (K : Int) : Nat := (wtK K * 65536 - K).toNat
theorem wtK_of {wt c : Nat} (hc : c < 65536) : wtK ((wt : Int) * 65536 - (c : Int)) = (wt : Int) := by
  unfold wtK
  omega
theorem cdK_of {wt c : Nat} (hc : c < 65536) : cdK ((wt : Int) * 65536 - (c : Int)) = c := by
  unfold cdK
  rw [wtK_of hc]
  omega
/-- what a life gets by its way -/
def gvR (ws : Nat → Nat) (c k : Nat) : Nat := if c / rmS k % 4 = 0 then 0 else if c / rmS k % 4 = 1 then 3 else ws k
/-- the best so far, and one more -/
def rmU (ws : Nat → Nat) (x : Int × (Nat → Int)) (K : Int) : Int × (Nat → Int) := if x.1 < wtK K then (wtK K, fun k => ((gvR ws (cdK K) k : Nat) : Int)) else x
theorem rmU_up {ws : Nat → Nat} {x : Int × (Nat → Int)} {K1 K2 : Int} (h : wtK K1 = wtK K2 → K2 ≤ K1) : rmU ws (rmU ws x K1) K2 = rmU ws x (max K1 K2) := by
  by_cases c : K1 ≤ K2
  · rw [Int.max_eq_right c]
    have m : wtK K1 ≤ wtK K2 := by unfold wtK; omega
    by_cases e : wtK K1 = wtK K2
    · have : K1 = K2 := Int.le_antisymm c (h e)
      subst this
      unfold rmU
      split
      · exact if_neg (Int.lt_irrefl _)
      · rfl
    · unfold rmU
      split
      · rename_i g
        rw [if_pos (show x.1 < wtK K2 by omega)]
        exact if_pos (show wtK K1 < wtK K2 by omega)
      · rfl
  · rw [Int.max_eq_left (show K2 ≤ K1 by omega)]
    have m : wtK K2 ≤ wtK K1 := by unfold wtK; omega
    unfold rmU
    split
    · exact if_neg (show ¬ wtK K1 < wtK K2 by omega)
    · rename_i g
      exact if_neg (show ¬ x.1 < wtK K2 by omega)
theorem rmT1 {w : Nat} {s : Int} {f : Nat → Int} {l : Nat} (h3 : ¬ 3 ≤ l) (hw : ¬ w ≤ l) : rmO true w s f l = f l := by
  unfold rmO
  rw [if_neg (fun h => h3 h.2), if_neg (fun h => hw h.2)]
  omega
theorem rmT2 {w : Nat} {s : Int} {f : Nat → Int} {l : Nat} (h3 : ¬ 3 ≤ l) (hw : w ≤ l) : rmO true w s f l = max (f l) (f (l - w) + (3 * (w : Int) * 65536 - 2 * s)) := by
  unfold rmO
  rw [if_neg (fun h => h3 h.2), if_pos (⟨rfl, hw⟩ : true = true ∧ w ≤ l)]
  omega
theorem rmT3 {w : Nat} {s : Int} {f : Nat → Int} {l : Nat} (h3 : 3 ≤ l) (hw : ¬ w ≤ l) : rmO true w s f l = max (f l) (f (l - 3) + ((w : Int) * 65536 - s)) := by
  unfold rmO
  rw [if_pos (⟨rfl, h3⟩ : true = true ∧ 3 ≤ l), if_neg (show ¬ (true = true ∧ w ≤ l) from fun h => hw h.2)]
  omega
theorem rmT4 {w : Nat} {s : Int} {f : Nat → Int} {l : Nat} (h3 : 3 ≤ l) (hw : w ≤ l) : rmO true w s f l = max (max (f l) (f (l - 3) + ((w : Int) * 65536 - s))) (f (l - w) + (3 * (w : Int) * 65536 - 2 * s)) := by
  unfold rmO
  rw [if_pos (⟨rfl, h3⟩ : true = true ∧ 3 ≤ l), if_pos (⟨rfl, hw⟩ : true = true ∧ w ≤ l)]
theorem shl16 : ∀ w, w < 2400 → (nI w <<< ((16 : Int32) &&& 31)).toInt = ((w * 65536 : Nat) : Int) := by decide +kernel
theorem nI_3 : ∀ w, w < 100 → 3 * nI w = nI (3 * w) := by decide +kernel
theorem rsh8 : ∀ i, i < 8 → ((1 : Int32) <<< (2 * (7 - nI i) &&& 31)).toInt = ((rmS i : Nat) : Int) := by decide +kernel
theorem sar16 (x : Int32) : (x >>> ((16 : Int32) &&& 31)).toInt = x.toInt / 65536 := by
  show (BitVec.sshiftRight' x.toBitVec (BitVec.smod ((16 : Int32) &&& 31).toBitVec 32#32)).toInt = _
  rw [show BitVec.smod ((16 : Int32) &&& 31).toBitVec 32#32 = 16#32 by decide]
  show (BitVec.sshiftRight x.toBitVec 16).toInt = _
  rw [BitVec.toInt_sshiftRight, Int.shiftRight_eq_div_pow]
  rfl
theorem sarS {x : Int32} {c i : Nat} (hx : x.toInt = (c : Int)) (hc : c < 65536) (hi : i < 8) : x >>> (2 * (7 - nI i) &&& 31) &&& 3 = nI (c / rmS i % 4) := by
  have hb : x.toBitVec = BitVec.ofNat 32 c := by
    rw [nI_is hx (by omega)]
    rfl
  have key : ∀ j, j < 8 → (BitVec.sshiftRight' (BitVec.ofNat 32 c) (BitVec.smod (2 * (7 - nI j) &&& 31 : Int32).toBitVec 32#32)).toNat = c / rmS j := by
    intro j hj
    have hm : (BitVec.ofNat 32 c).msb = false := by
      rw [BitVec.msb_eq_decide, BitVec.toNat_ofNat]
      exact decide_eq_false (by omega)
    have e : ∀ j, j < 8 → (BitVec.smod (2 * (7 - nI j) &&& 31 : Int32).toBitVec 32#32).toNat = 2 * (7 - j) := by decide +kernel
    show (BitVec.sshiftRight (BitVec.ofNat 32 c) (BitVec.smod (2 * (7 - nI j) &&& 31 : Int32).toBitVec 32#32).toNat).toNat = _
    rw [e j hj, BitVec.sshiftRight_eq_of_msb_false hm, BitVec.toNat_ushiftRight, BitVec.toNat_ofNat, Nat.shiftRight_eq_div_pow, show (2 : Nat) ^ (2 * (7 - j)) = rmS j by rw [Nat.pow_mul]; rfl, Nat.mod_eq_of_lt (by omega)]
  apply Int32.toBitVec_inj.mp
  apply BitVec.eq_of_toNat_eq
  show (BitVec.sshiftRight' x.toBitVec (BitVec.smod (2 * (7 - nI i) &&& 31 : Int32).toBitVec 32#32) &&& 3#32).toNat = (BitVec.ofNat 32 (c / rmS i % 4)).toNat
  rw [BitVec.toNat_and, hb, key i hi, BitVec.toNat_ofNat, show 3 % 2 ^ 32 = 2 ^ 2 - 1 by decide, Nat.and_two_pow_sub_one_eq_mod, BitVec.toNat_ofNat]
  omega
def wsD (D : dD) (i : Nat) : Nat := (D.2.1 i 2).toNat
theorem wsD_b {D : dD} (hD : dOk D) : ∀ i, i < D.1 → 1 ≤ wsD D i ∧ wsD D i ≤ 99 := fun i hi => by
  have h9 := (hD.2.2.1 i hi).2.2.1
  unfold wsD
  omega
theorem dg_add : ∀ i, i < 8 → ∀ k, k < 8 → ∀ pc d : Nat, pc % (4 * rmS i) = 0 → d < 4 → (pc + d * rmS i) / rmS k % 4 = if k = i then d else pc / rmS k % 4 := by
  intro i hi k hk pc d hp hd
  by_cases e : k = i
  · subst e
    rw [if_pos rfl]
    rcases (show k = 0 ∨ k = 1 ∨ k = 2 ∨ k = 3 ∨ k = 4 ∨ k = 5 ∨ k = 6 ∨ k = 7 by omega) with rfl | rfl | rfl | rfl | rfl | rfl | rfl | rfl
    all_goals simp only [rmS, Nat.reduceSub, Nat.reducePow, Nat.reduceMul] at hp ⊢
    all_goals omega
  · rw [if_neg e]
    rcases (show i = 0 ∨ i = 1 ∨ i = 2 ∨ i = 3 ∨ i = 4 ∨ i = 5 ∨ i = 6 ∨ i = 7 by omega) with rfl | rfl | rfl | rfl | rfl | rfl | rfl | rfl
    all_goals rcases (show k = 0 ∨ k = 1 ∨ k = 2 ∨ k = 3 ∨ k = 4 ∨ k = 5 ∨ k = 6 ∨ k = 7 by omega) with rfl | rfl | rfl | rfl | rfl | rfl | rfl | rfl
    all_goals simp only [rmS, Nat.reduceSub, Nat.reducePow, Nat.reduceMul] at hp ⊢
    all_goals omega
theorem pc_b : ∀ i, i < 8 → ∀ pc : Nat, pc % (4 * rmS i) = 0 → pc < 65536 → pc + 4 * rmS i ≤ 65536 := by
  intro i hi pc hp h
  rcases (show i = 0 ∨ i = 1 ∨ i = 2 ∨ i = 3 ∨ i = 4 ∨ i = 5 ∨ i = 6 ∨ i = 7 by omega) with rfl | rfl | rfl | rfl | rfl | rfl | rfl | rfl
  all_goals simp only [rmS, Nat.reduceSub, Nat.reducePow, Nat.reduceMul] at hp ⊢
  all_goals omega
theorem pc_n : ∀ i, i < 8 → ∀ pc d : Nat, pc % (4 * rmS i) = 0 → (pc + d * rmS i) % (4 ^ (8 - (i + 1))) = 0 := by
  intro i hi pc d hp
  rcases (show i = 0 ∨ i = 1 ∨ i = 2 ∨ i = 3 ∨ i = 4 ∨ i = 5 ∨ i = 6 ∨ i = 7 by omega) with rfl | rfl | rfl | rfl | rfl | rfl | rfl | rfl
  all_goals simp only [rmS, Nat.reduceSub, Nat.reduceAdd, Nat.reducePow, Nat.reduceMul] at hp ⊢
  all_goals omega
theorem gv_add {ws : Nat → Nat} {i pc d : Nat} (hi : i < 8) (hp : pc % (4 * rmS i) = 0) (hd : d < 4) {k : Nat} (hk : k < 8) : gvR ws (pc + d * rmS i) k = if k = i then (if d = 0 then 0 else if d = 1 then 3 else ws k) else gvR ws pc k := by
  unfold gvR
  rw [dg_add i hi k hk pc d hp hd]
  by_cases e : k = i
  · rw [if_pos e, if_pos e]
  · rw [if_neg e, if_neg e]
theorem gv_0 {ws : Nat → Nat} {i pc : Nat} (hi : i < 8) (hp : pc % (4 * rmS i) = 0) : gvR ws pc i = 0 := by
  have h := gv_add (ws := ws) (d := 0) hi hp (by decide) hi
  rw [if_pos rfl, if_pos rfl, Nat.zero_mul, Nat.add_zero] at h
  exact h
/-- the other side: what stands in its three places -/
def rmB (M : fmM) (x : Int × (Nat → Int)) : Prop := (M.1 0 46).toInt = x.1 ∧ ∀ k, k < 8 → (M.1 15 k).toInt = x.2 k
def rmG (M : fmM) (ws : Nat → Nat) (c : Nat) : Prop := ∀ k, k < 8 → (M.1 14 k).toInt = ((gvR ws c k : Nat) : Int)
def rmFr (M M' : fmM) : Prop := (∀ k j, k ≠ 0 → k ≠ 14 → k ≠ 15 → M'.1 k j = M.1 k j) ∧ (∀ j, j ≠ 46 → M'.1 0 j = M.1 0 j) ∧ M'.2 = M.2
theorem rmFr.refl (M : fmM) : rmFr M M := ⟨fun _ _ _ _ _ => rfl, fun _ _ => rfl, rfl⟩
theorem rmFr.trans {M M1 M2 : fmM} (h : rmFr M M1) (h' : rmFr M1 M2) : rmFr M M2 := ⟨fun k j a b c => (h'.1 k j a b c).trans (h.1 k j a b c), fun j a => (h'.2.1 j a).trans (h.2.1 j a), h'.2.2.trans h.2.2⟩
theorem rmFr.g {M M1 : fmM} {j : Nat} {x : Int32} (h : rmFr M M1) : rmFr M (fmI M1 14 j x) := ⟨fun k j' a b c => by rw [fmI_k _ _ b]; exact h.1 k j' a b c, fun j' a => by rw [fmI_k _ _ (by decide)]; exact h.2.1 j' a, h.2.2⟩
theorem rmB.g {M : fmM} {x : Int × (Nat → Int)} {j : Nat} {v : Int32} (h : rmB M x) : rmB (fmI M 14 j v) x := ⟨by rw [fmI_k _ _ (by decide)]; exact h.1, fun k hk => by rw [fmI_k _ _ (by decide)]; exact h.2 k hk⟩
theorem rmG.put {M : fmM} {ws : Nat → Nat} {pc i d : Nat} {v : Int32} (h : rmG M ws pc) (hi : i < 8) (hp : pc % (4 * rmS i) = 0) (hd : d < 4) (hv : v.toInt = (((if d = 0 then 0 else if d = 1 then 3 else ws i) : Nat) : Int)) : rmG (fmI M 14 i v) ws (pc + d * rmS i) := fun k hk => by
  rw [gv_add hi hp hd hk]
  by_cases e : k = i
  · subst e
    rw [if_pos rfl, fmI_s]
    exact hv
  · rw [if_neg e, fmI_j _ _ e]
    exact h k hk
theorem rmG.back {M : fmM} {ws : Nat → Nat} {pc i d : Nat} (h : rmG M ws (pc + d * rmS i)) (hi : i < 8) (hp : pc % (4 * rmS i) = 0) (hd : d < 4) : rmG (fmI M 14 i 0) ws pc := fun k hk => by
  by_cases e : k = i
  · subst e
    rw [gv_0 hi hp, fmI_s]
    decide
  · rw [fmI_j _ _ e]
    have h9 := h k hk
    rw [gv_add hi hp hd hk, if_neg e] at h9
    exact h9
theorem rmG.swap {M : fmM} {ws : Nat → Nat} {pc i d d2 : Nat} {v : Int32} (h : rmG M ws (pc + d * rmS i)) (hi : i < 8) (hp : pc % (4 * rmS i) = 0) (hd : d < 4) (hd2 : d2 < 4) (hv : v.toInt = (((if d2 = 0 then 0 else if d2 = 1 then 3 else ws i) : Nat) : Int)) : rmG (fmI M 14 i v) ws (pc + d2 * rmS i) := fun k hk => by
  rw [gv_add hi hp hd2 hk]
  by_cases e : k = i
  · subst e
    rw [if_pos rfl, fmI_s]
    exact hv
  · rw [if_neg e, fmI_j _ _ e]
    have h9 := h k hk
    rw [gv_add hi hp hd hk, if_neg e] at h9
    exact h9
def RmP (D : dD) (lv m : Nat) : Prop := ∀ {M : fmM} {Q : fmR → fmM → Prop} (i l wo pc : Nat) (x : Int × (Nat → Int)), i + m = D.1 → l ≤ 200 → wo ≤ 297 * i → pc < 65536 → pc % (4 ^ (8 - i)) = 0 → -1 ≤ x.1 → mdw M D → rmG M (wsD D) pc → rmB M x → (∀ M' : fmM, rmFr M M' → rmG M' (wsD D) pc → rmB M' (rmU (wsD D) x ((wo : Int) * 65536 - (pc : Int) + rmK (Nat.testBit lv) (wsD D) m i l)) → Q (.inl none) M') → pvGood Tm (m + 1) qX11_rooms [.ref 0, .int (nI i), .int (nI lv), .int (nI l), .int (nI wo)] M Q
/-- keys of the three ways are apart, the later the worse when they are worth as much -/
theorem wt_1 {wo pc : Nat} {K : Int} {w c : Nat} (e : K = (w : Int) * 65536 - (c : Int)) (h : pc + c < 65536) : wtK ((wo : Int) * 65536 - (pc : Int) + K) = ((wo + w : Nat) : Int) := by
  unfold wtK
  omega
theorem rmU_b {ws : Nat → Nat} {x : Int × (Nat → Int)} {K : Int} (hb : -1 ≤ x.1) (hk : -1 ≤ wtK K) : -1 ≤ (rmU ws x K).1 := by
  unfold rmU
  split
  · exact hk
  · exact hb
theorem bt_8 : ∀ l, l ≤ 8 → ((1 : Int32) <<< (nI l &&& 31) - 1).toInt = ((2 ^ l - 1 : Nat) : Int) := by decide +kernel
set_option maxRecDepth 20000 in
theorem xfi_loop {Q : fmR → fmM → Prop} {M0 : fmM} (hq : ∀ M' : fmM, (∀ j, j < 201 → M'.1 45 j = 0) → (∀ k j, k ≠ 45 → M'.1 k j = M0.1 k j) → M'.2 = M0.2 → Q (.inl none) M') : ∀ (m n : Nat) (M : fmM), n + m = 201 → (∀ j, j < n → M.1 45 j = 0) → (∀ k j, k ≠ 45 → M.1 k j = M0.1 k j) → M.2 = M0.2 → pvEv Tx 1 qJ7_fill_53178 5 [some (.ref 45), some (.int 0), some (.int (nI n)), some (.int 201)] [] M Q := by
  intro m
  induction m with
  | zero =>
    intro n M hn h h1 h2
    have hn9 : (nI n).toInt = (n : Int) := nI_toInt (by omega)
    refine pv_iloadn (pc := 5) (n := 2) 2 rfl rfl (fm_dec dtJ7_fill_53178 5 rfl) ?_
    refine pv_iloadn (pc := 6) (n := 3) 3 rfl rfl (fm_dec dtJ7_fill_53178 6 rfl) ?_
    refine pv_icmp_ge (pc := 7) 20 (by decide) (fm_dec dtJ7_fill_53178 7 rfl) (fun _ => ?_) (fun hc7 => by exfalso; apply hc7; rw [sc_le]; have z : (201 : Int32).toInt = 201 := (by decide); omega)
    exact pv_return (pc := 20) rfl (fm_dec dtJ7_fill_53178 14 rfl) (hq M (fun j hj => h j (by omega)) h1 h2)
  | succ m ih =>
    intro n M hn h h1 h2
    have hn9 : (nI n).toInt = (n : Int) := nI_toInt (by omega)
    refine pv_iloadn (pc := 5) (n := 2) 2 rfl rfl (fm_dec dtJ7_fill_53178 5 rfl) ?_
    refine pv_iloadn (pc := 6) (n := 3) 3 rfl rfl (fm_dec dtJ7_fill_53178 6 rfl) ?_
    refine pv_icmp_ge (pc := 7) 20 (by decide) (fm_dec dtJ7_fill_53178 7 rfl) (fun hc7 => by exfalso; rw [sc_le] at hc7; have z : (201 : Int32).toInt = 201 := (by decide); omega) (fun _ => ?_)
    refine pv_aloadn (pc := 10) (n := 0) 0 rfl rfl (fm_dec dtJ7_fill_53178 8 rfl) ?_
    refine pv_iloadn (pc := 11) (n := 2) 2 rfl rfl (fm_dec dtJ7_fill_53178 9 rfl) ?_
    refine pv_iloadn (pc := 12) (n := 1) 1 rfl rfl (fm_dec dtJ7_fill_53178 10 rfl) ?_
    refine pv_iast (k := 45) (n := 201) (pc := 13) (by decide) rfl rfl (ix_in hn9 (by omega)) (fm_dec dtJ7_fill_53178 11 rfl) ?_
    rw [i32_cl hn9]
    refine pv_iincc (pc := 14) 2 1 (by decide) rfl (by decide) rfl (fm_dec dtJ7_fill_53178 12 rfl) ?_
    dsimp only [List.set_cons_zero, List.set_cons_succ]
    refine pv_goto (pc := 17) 5 (by decide) (fm_dec dtJ7_fill_53178 13 rfl) ?_
    rw [nI_succ1]
    refine ih (n + 1) _ (by omega) (fun j hj => ?_) (fun k j hk => ?_) h2
    · by_cases e : j = n
      · rw [e, fmI_s]
      · rw [fmI_j _ _ e]
        exact h j (by omega)
    · rw [fmI_k _ _ hk]
      exact h1 k j hk
set_option maxRecDepth 20000 in
theorem c_xfi {M : fmM} {Q : fmR → fmM → Prop}  (hq : ∀ M' : fmM, (∀ j, j < 201 → M'.1 45 j = 0) → (∀ k j, k ≠ 45 → M'.1 k j = M.1 k j) → M'.2 = M.2 → Q (.inl none) M') : pvGood Tx 1 qJ7_fill_53178 [.ref 45, .int 0] M Q := by
  refine pvGood_of (Nat.le_of_ble_eq_true rfl) ?_
  show pvEv Tx 1 qJ7_fill_53178 0 [some (.ref 45), some (.int 0), none, none] [] M Q
  refine pv_iconst (pc := 0) (v := 0) (by decide) (fm_dec dtJ7_fill_53178 0 rfl) ?_
  refine pv_istoren (pc := 1) (n := 2) 2 rfl (by decide) rfl (fm_dec dtJ7_fill_53178 1 rfl) ?_
  dsimp only [List.set_cons_zero, List.set_cons_succ]
  refine pv_aloadn (pc := 2) (n := 0) 0 rfl rfl (fm_dec dtJ7_fill_53178 2 rfl) ?_
  refine pv_alenI (k := 45) (n := 201) (v := 201) (pc := 3) (by decide) rfl rfl (by decide) (fm_dec dtJ7_fill_53178 3 rfl) ?_
  refine pv_istoren (pc := 4) (n := 3) 3 rfl (by decide) rfl (fm_dec dtJ7_fill_53178 4 rfl) ?_
  dsimp only [List.set_cons_zero, List.set_cons_succ]
  exact xfi_loop hq 201 0 M rfl (fun j hj => absurd hj (Nat.not_lt_zero _)) (fun _ _ _ => rfl) rfl
set_option maxRecDepth 20000 in
theorem c_rsh {M : fmM} {Q : fmR → fmM → Prop} {x : Int32} (hq : Q (.inl (some (.int (2 * (7 - x))))) M) : pvGood Tx 0 qX10_roomShift [.int x] M Q := by
  refine pvGood_of (Nat.le_of_ble_eq_true rfl) ?_
  show pvEv Tx 0 qX10_roomShift 0 [some (.int x)] [] M Q
  refine pv_iconst (pc := 0) (v := 2) (by decide) (fm_dec dtX10_roomShift 0 rfl) ?_
  refine pv_bipush (pc := 1) (v := 7) (by decide) (fm_dec dtX10_roomShift 1 rfl) ?_
  refine pv_iloadn (pc := 3) (n := 0) 0 rfl rfl (fm_dec dtX10_roomShift 2 rfl) ?_
  refine pv_isub (pc := 4) (fm_dec dtX10_roomShift 3 rfl) ?_
  refine pv_imul (pc := 5) (fm_dec dtX10_roomShift 4 rfl) ?_
  exact pv_ireturn (pc := 6) rfl (fm_dec dtX10_roomShift 5 rfl) hq
set_option maxRecDepth 20000 in
theorem c_rwo {M : fmM} {Q : fmR → fmM → Prop} {x : Int32} (hq : Q (.inl (some (.int ((x + 65535) >>> (16 &&& 31))))) M) : pvGood Tx 0 qX10_roomWorth [.int x] M Q := by
  refine pvGood_of (Nat.le_of_ble_eq_true rfl) ?_
  show pvEv Tx 0 qX10_roomWorth 0 [some (.int x)] [] M Q
  refine pv_iloadn (pc := 0) (n := 0) 0 rfl rfl (fm_dec dtX10_roomWorth 0 rfl) ?_
  refine pv_ldcw (pc := 1) pkc_X10_393 (fm_dec dtX10_roomWorth 1 rfl) ?_
  refine pv_iadd (pc := 4) (fm_dec dtX10_roomWorth 2 rfl) ?_
  refine pv_bipush (pc := 5) (v := 16) (by decide) (fm_dec dtX10_roomWorth 3 rfl) ?_
  refine pv_ishr (pc := 7) (fm_dec dtX10_roomWorth 4 rfl) ?_
  exact pv_ireturn (pc := 8) rfl (fm_dec dtX10_roomWorth 5 rfl) hq
set_option maxRecDepth 20000 in
theorem xat_loop {Q : fmR → fmM → Prop} {M0 : fmM} {i r w s : Nat} {sh : Int32} {f : Nat → Int} (hsh : sh.toInt = (s : Int)) (hs : s ≤ 16384) (hwb : 1 ≤ w ∧ w ≤ 99) (hr : r ≤ 200) (hf : ∀ a, -65536 ≤ f a ∧ f a ≤ 200000000) (hq : ∀ M' : fmM, (∀ j, j ≤ r → (M'.1 45 j).toInt = rmO true w (s : Int) f j) → (∀ k j, k ≠ 45 → M'.1 k j = M0.1 k j) → M'.2 = M0.2 → Q (.inl none) M') : ∀ (m : Nat) (M : fmM) (a : Int32) (v6 : Option Value), m ≤ r + 1 → a.toInt = (m : Int) - 1 → (∀ j, m ≤ j → j ≤ r → (M.1 45 j).toInt = rmO true w (s : Int) f j) → (∀ j, j < m → j ≤ r → (M.1 45 j).toInt = f j) → (∀ k j, k ≠ 45 → M.1 k j = M0.1 k j) → M.2 = M0.2 → pvEv Tx 1 qX10_addToRoom 27 [some (.ref 0), some (.int (nI i)), some (.int (nI r)), some (.int (nI w)), some (.int sh), some (.int a), v6] [] M Q := by
  intro m
  induction m with
  | zero =>
    intro M a v6 hm ha0 hup hlo h1 h2
    refine pv_iload (pc := 27) (i := 5) rfl (fm_dec dtX10_addToRoom 15 rfl) ?_
    refine pv_if_lt (pc := 29) 120 (by decide) (fm_dec dtX10_addToRoom 16 rfl) (fun _ => ?_) (fun hc29 => by exfalso; exact hc29 (by rw [sc_lt]; have h9 : (0 : Int32).toInt = 0 := (by decide); omega))
    exact pv_return (pc := 120) rfl (fm_dec dtX10_addToRoom 69 rfl) (hq M (fun j hj => hup j (Nat.zero_le _) hj) h1 h2)
  | succ m ih =>
    intro M a v6 hm ha0 hup hlo h1 h2
    have ha : a.toInt = (m : Int) := (by omega)
    have q0 := hlo m (by omega) (by omega)
    have hwn : (nI w).toInt = (w : Int) := nI_toInt (by omega)
    have hw9 : 0 ≤ (nI w).toInt ∧ (nI w).toInt ≤ 99 := (by omega)
    have z3 : (3 : Int32).toInt = 3 := (by decide)
    have z2 : (2 : Int32).toInt = 2 := (by decide)
    have e16 : (nI w <<< ((16 : Int32) &&& 31)).toInt = (w : Int) * 65536 := (by rw [shl16 w (by omega)]; omega)
    have e48 : ((3 * nI w) <<< ((16 : Int32) &&& 31)).toInt = 3 * (w : Int) * 65536 := (by rw [nI_3 w (by omega), shl16 (3 * w) (by omega)]; omega)
    have e2s : (2 * sh).toInt = 2 * (s : Int) := (by rw [sc_mul (by rw [z2]; omega) (by rw [z2]; omega), z2, hsh])
    refine pv_iload (pc := 27) (i := 5) rfl (fm_dec dtX10_addToRoom 15 rfl) ?_
    refine pv_if_lt (pc := 29) 120 (by decide) (fm_dec dtX10_addToRoom 16 rfl) (fun hc29 => by exfalso; rw [sc_lt] at hc29; have h9 : (0 : Int32).toInt = 0 := (by decide); omega) (fun _ => ?_)
    refine pv_aloadn (pc := 32) (n := 0) 0 rfl rfl (fm_dec dtX10_addToRoom 17 rfl) ?_
    refine pv_getR (k := 0) (j := 12) (ci := 10) (pc := 33) 45 rfl (by decide) pfl_X10_87 (by decide) rfl (by decide) (fm_dec dtX10_addToRoom 18 rfl) ?_
    refine pv_iload (pc := 36) (i := 5) rfl (fm_dec dtX10_addToRoom 19 rfl) ?_
    refine pv_iald (k := 45) (n := 201) (pc := 38) (by decide) rfl rfl (ar_in ha (by omega)) (fm_dec dtX10_addToRoom 20 rfl) ?_
    rw [i32_cl ha]
    refine pv_istore (pc := 39) (i := 6) (by decide) rfl (fm_dec dtX10_addToRoom 21 rfl) ?_
    dsimp only [List.set_cons_zero, List.set_cons_succ]
    refine pv_iload (pc := 41) (i := 5) rfl (fm_dec dtX10_addToRoom 22 rfl) ?_
    refine pv_iconst (pc := 43) (v := 3) (by decide) (fm_dec dtX10_addToRoom 23 rfl) ?_
    refine pv_icmp_lt (pc := 44) 71 (by decide) (fm_dec dtX10_addToRoom 24 rfl) (fun hc44 => ?_) (fun hc44 => ?_)
    · refine pv_iload (pc := 71) (i := 5) rfl (fm_dec dtX10_addToRoom 40 rfl) ?_
      refine pv_iloadn (pc := 73) (n := 3) 3 rfl rfl (fm_dec dtX10_addToRoom 41 rfl) ?_
      refine pv_icmp_lt (pc := 74) 105 (by decide) (fm_dec dtX10_addToRoom 42 rfl) (fun hc74 => ?_) (fun hc74 => ?_)
      · refine pv_aloadn (pc := 105) (n := 0) 0 rfl rfl (fm_dec dtX10_addToRoom 62 rfl) ?_
        refine pv_getR (k := 0) (j := 12) (ci := 10) (pc := 106) 45 rfl (by decide) pfl_X10_87 (by decide) rfl (by decide) (fm_dec dtX10_addToRoom 63 rfl) ?_
        refine pv_iload (pc := 109) (i := 5) rfl (fm_dec dtX10_addToRoom 64 rfl) ?_
        refine pv_iload (pc := 111) (i := 6) rfl (fm_dec dtX10_addToRoom 65 rfl) ?_
        refine pv_iast (k := 45) (n := 201) (pc := 113) (by decide) rfl rfl (ar_in ha (by omega)) (fm_dec dtX10_addToRoom 66 rfl) ?_
        refine pv_iincc (pc := 114) 5 (-1) (by decide) rfl (by decide) rfl (fm_dec dtX10_addToRoom 67 rfl) ?_
        dsimp only [List.set_cons_zero, List.set_cons_succ]
        refine pv_goto (pc := 117) 27 (by decide) (fm_dec dtX10_addToRoom 68 rfl) ?_
        rw [i32_cl ha]
        refine ih _ _ _ (by omega) (ar_d ha (by omega)) (fun j hj h9 => ?_) (fun j hj h9 => ?_) (fun k j hk => by rw [fmI_k _ _ hk]; exact h1 k j hk) h2
        · by_cases ej : j = m
          · rw [ej, fmI_s, q0, rmT1 (show ¬ 3 ≤ m by rw [sc_lt] at hc44; omega) (show ¬ w ≤ m by rw [sc_lt] at hc74; omega)]
          · rw [fmI_j _ _ ej]
            exact hup j (by omega) h9
        · rw [fmI_j _ _ (by omega)]
          exact hlo j (by omega) h9
      · refine pv_iload (pc := 77) (i := 6) rfl (fm_dec dtX10_addToRoom 43 rfl) ?_
        refine pv_aloadn (pc := 79) (n := 0) 0 rfl rfl (fm_dec dtX10_addToRoom 44 rfl) ?_
        refine pv_getR (k := 0) (j := 12) (ci := 10) (pc := 80) 45 rfl (by decide) pfl_X10_87 (by decide) rfl (by decide) (fm_dec dtX10_addToRoom 45 rfl) ?_
        refine pv_iload (pc := 83) (i := 5) rfl (fm_dec dtX10_addToRoom 46 rfl) ?_
        refine pv_iloadn (pc := 85) (n := 3) 3 rfl rfl (fm_dec dtX10_addToRoom 47 rfl) ?_
        refine pv_isub (pc := 86) (fm_dec dtX10_addToRoom 48 rfl) ?_
        refine pv_iald (k := 45) (n := 201) (pc := 87) (by decide) rfl rfl (ar_w ha (by omega) hw9 hc74) (fm_dec dtX10_addToRoom 49 rfl) ?_
        have hwm : w ≤ m := (by rw [sc_lt] at hc74; omega)
        have ew : (a - nI w).toInt = ((m - w : Nat) : Int) := (by rw [sc_sub (by omega) (by omega)]; omega)
        have qw := hlo (m - w) (by omega) (by omega)
        rw [i32_cl ew]
        have b1 : (M.1 45 (m - w) + (3 * nI w) <<< (16 &&& 31)).toInt = f (m - w) + 3 * (w : Int) * 65536 := (by have c1 := hf (m - w); rw [sc_add (by omega) (by omega), qw, e48])
        have b2 : (M.1 45 (m - w) + (3 * nI w) <<< (16 &&& 31) - 2 * sh).toInt = f (m - w) + (3 * (w : Int) * 65536 - 2 * (s : Int)) := (by have c1 := hf (m - w); rw [sc_sub (by omega) (by omega), b1, e2s]; omega)
        refine pv_iconst (pc := 88) (v := 3) (by decide) (fm_dec dtX10_addToRoom 50 rfl) ?_
        refine pv_iloadn (pc := 89) (n := 3) 3 rfl rfl (fm_dec dtX10_addToRoom 51 rfl) ?_
        refine pv_imul (pc := 90) (fm_dec dtX10_addToRoom 52 rfl) ?_
        refine pv_bipush (pc := 91) (v := 16) (by decide) (fm_dec dtX10_addToRoom 53 rfl) ?_
        refine pv_ishl (pc := 93) (fm_dec dtX10_addToRoom 54 rfl) ?_
        refine pv_iadd (pc := 94) (fm_dec dtX10_addToRoom 55 rfl) ?_
        refine pv_iconst (pc := 95) (v := 2) (by decide) (fm_dec dtX10_addToRoom 56 rfl) ?_
        refine pv_iload (pc := 96) (i := 4) rfl (fm_dec dtX10_addToRoom 57 rfl) ?_
        refine pv_imul (pc := 98) (fm_dec dtX10_addToRoom 58 rfl) ?_
        refine pv_isub (pc := 99) (fm_dec dtX10_addToRoom 59 rfl) ?_
        refine pv_mm (pc := 100) pmm_X10_357 (by decide) (Nat.le_of_ble_eq_true rfl) (fm_dec dtX10_addToRoom 60 rfl) ?_
        refine pv_istore (pc := 103) (i := 6) (by decide) rfl (fm_dec dtX10_addToRoom 61 rfl) ?_
        dsimp only [List.set_cons_zero, List.set_cons_succ]
        refine pv_aloadn (pc := 105) (n := 0) 0 rfl rfl (fm_dec dtX10_addToRoom 62 rfl) ?_
        refine pv_getR (k := 0) (j := 12) (ci := 10) (pc := 106) 45 rfl (by decide) pfl_X10_87 (by decide) rfl (by decide) (fm_dec dtX10_addToRoom 63 rfl) ?_
        refine pv_iload (pc := 109) (i := 5) rfl (fm_dec dtX10_addToRoom 64 rfl) ?_
        refine pv_iload (pc := 111) (i := 6) rfl (fm_dec dtX10_addToRoom 65 rfl) ?_
        refine pv_iast (k := 45) (n := 201) (pc := 113) (by decide) rfl rfl (ar_in ha (by omega)) (fm_dec dtX10_addToRoom 66 rfl) ?_
        refine pv_iincc (pc := 114) 5 (-1) (by decide) rfl (by decide) rfl (fm_dec dtX10_addToRoom 67 rfl) ?_
        dsimp only [List.set_cons_zero, List.set_cons_succ]
        refine pv_goto (pc := 117) 27 (by decide) (fm_dec dtX10_addToRoom 68 rfl) ?_
        rw [i32_cl ha]
        refine ih _ _ _ (by omega) (ar_d ha (by omega)) (fun j hj h9 => ?_) (fun j hj h9 => ?_) (fun k j hk => by rw [fmI_k _ _ hk]; exact h1 k j hk) h2
        · by_cases ej : j = m
          · rw [ej, fmI_s, mxt, q0, b2, rmT2 (show ¬ 3 ≤ m by rw [sc_lt] at hc44; omega) hwm]
          · rw [fmI_j _ _ ej]
            exact hup j (by omega) h9
        · rw [fmI_j _ _ (by omega)]
          exact hlo j (by omega) h9
    · refine pv_iload (pc := 47) (i := 6) rfl (fm_dec dtX10_addToRoom 25 rfl) ?_
      refine pv_aloadn (pc := 49) (n := 0) 0 rfl rfl (fm_dec dtX10_addToRoom 26 rfl) ?_
      refine pv_getR (k := 0) (j := 12) (ci := 10) (pc := 50) 45 rfl (by decide) pfl_X10_87 (by decide) rfl (by decide) (fm_dec dtX10_addToRoom 27 rfl) ?_
      refine pv_iload (pc := 53) (i := 5) rfl (fm_dec dtX10_addToRoom 28 rfl) ?_
      refine pv_iconst (pc := 55) (v := 3) (by decide) (fm_dec dtX10_addToRoom 29 rfl) ?_
      refine pv_isub (pc := 56) (fm_dec dtX10_addToRoom 30 rfl) ?_
      refine pv_iald (k := 45) (n := 201) (pc := 57) (by decide) rfl rfl (ar_3 ha (by omega) hc44) (fm_dec dtX10_addToRoom 31 rfl) ?_
      have h3 : 3 ≤ m := (by rw [sc_lt] at hc44; omega)
      have e3 : (a - 3).toInt = ((m - 3 : Nat) : Int) := (by rw [sc_sub (by omega) (by omega)]; omega)
      have q3 := hlo (m - 3) (by omega) (by omega)
      rw [i32_cl e3]
      have a1 : (M.1 45 (m - 3) + nI w <<< (16 &&& 31)).toInt = f (m - 3) + (w : Int) * 65536 := (by have b1 := hf (m - 3); rw [sc_add (by omega) (by omega), q3, e16])
      have a2 : (M.1 45 (m - 3) + nI w <<< (16 &&& 31) - sh).toInt = f (m - 3) + ((w : Int) * 65536 - (s : Int)) := (by have b1 := hf (m - 3); rw [sc_sub (by omega) (by omega), a1, hsh]; omega)
      refine pv_iloadn (pc := 58) (n := 3) 3 rfl rfl (fm_dec dtX10_addToRoom 32 rfl) ?_
      refine pv_bipush (pc := 59) (v := 16) (by decide) (fm_dec dtX10_addToRoom 33 rfl) ?_
      refine pv_ishl (pc := 61) (fm_dec dtX10_addToRoom 34 rfl) ?_
      refine pv_iadd (pc := 62) (fm_dec dtX10_addToRoom 35 rfl) ?_
      refine pv_iload (pc := 63) (i := 4) rfl (fm_dec dtX10_addToRoom 36 rfl) ?_
      refine pv_isub (pc := 65) (fm_dec dtX10_addToRoom 37 rfl) ?_
      refine pv_mm (pc := 66) pmm_X10_357 (by decide) (Nat.le_of_ble_eq_true rfl) (fm_dec dtX10_addToRoom 38 rfl) ?_
      refine pv_istore (pc := 69) (i := 6) (by decide) rfl (fm_dec dtX10_addToRoom 39 rfl) ?_
      dsimp only [List.set_cons_zero, List.set_cons_succ]
      refine pv_iload (pc := 71) (i := 5) rfl (fm_dec dtX10_addToRoom 40 rfl) ?_
      refine pv_iloadn (pc := 73) (n := 3) 3 rfl rfl (fm_dec dtX10_addToRoom 41 rfl) ?_
      refine pv_icmp_lt (pc := 74) 105 (by decide) (fm_dec dtX10_addToRoom 42 rfl) (fun hc74 => ?_) (fun hc74 => ?_)
      · refine pv_aloadn (pc := 105) (n := 0) 0 rfl rfl (fm_dec dtX10_addToRoom 62 rfl) ?_
        refine pv_getR (k := 0) (j := 12) (ci := 10) (pc := 106) 45 rfl (by decide) pfl_X10_87 (by decide) rfl (by decide) (fm_dec dtX10_addToRoom 63 rfl) ?_
        refine pv_iload (pc := 109) (i := 5) rfl (fm_dec dtX10_addToRoom 64 rfl) ?_
        refine pv_iload (pc := 111) (i := 6) rfl (fm_dec dtX10_addToRoom 65 rfl) ?_
        refine pv_iast (k := 45) (n := 201) (pc := 113) (by decide) rfl rfl (ar_in ha (by omega)) (fm_dec dtX10_addToRoom 66 rfl) ?_
        refine pv_iincc (pc := 114) 5 (-1) (by decide) rfl (by decide) rfl (fm_dec dtX10_addToRoom 67 rfl) ?_
        dsimp only [List.set_cons_zero, List.set_cons_succ]
        refine pv_goto (pc := 117) 27 (by decide) (fm_dec dtX10_addToRoom 68 rfl) ?_
        rw [i32_cl ha]
        refine ih _ _ _ (by omega) (ar_d ha (by omega)) (fun j hj h9 => ?_) (fun j hj h9 => ?_) (fun k j hk => by rw [fmI_k _ _ hk]; exact h1 k j hk) h2
        · by_cases ej : j = m
          · rw [ej, fmI_s, mxt, q0, a2, rmT3 h3 (show ¬ w ≤ m by rw [sc_lt] at hc74; omega)]
          · rw [fmI_j _ _ ej]
            exact hup j (by omega) h9
        · rw [fmI_j _ _ (by omega)]
          exact hlo j (by omega) h9
      · refine pv_iload (pc := 77) (i := 6) rfl (fm_dec dtX10_addToRoom 43 rfl) ?_
        refine pv_aloadn (pc := 79) (n := 0) 0 rfl rfl (fm_dec dtX10_addToRoom 44 rfl) ?_
        refine pv_getR (k := 0) (j := 12) (ci := 10) (pc := 80) 45 rfl (by decide) pfl_X10_87 (by decide) rfl (by decide) (fm_dec dtX10_addToRoom 45 rfl) ?_
        refine pv_iload (pc := 83) (i := 5) rfl (fm_dec dtX10_addToRoom 46 rfl) ?_
        refine pv_iloadn (pc := 85) (n := 3) 3 rfl rfl (fm_dec dtX10_addToRoom 47 rfl) ?_
        refine pv_isub (pc := 86) (fm_dec dtX10_addToRoom 48 rfl) ?_
        refine pv_iald (k := 45) (n := 201) (pc := 87) (by decide) rfl rfl (ar_w ha (by omega) hw9 hc74) (fm_dec dtX10_addToRoom 49 rfl) ?_
        have hwm : w ≤ m := (by rw [sc_lt] at hc74; omega)
        have ew : (a - nI w).toInt = ((m - w : Nat) : Int) := (by rw [sc_sub (by omega) (by omega)]; omega)
        have qw := hlo (m - w) (by omega) (by omega)
        rw [i32_cl ew]
        have b1 : (M.1 45 (m - w) + (3 * nI w) <<< (16 &&& 31)).toInt = f (m - w) + 3 * (w : Int) * 65536 := (by have c1 := hf (m - w); rw [sc_add (by omega) (by omega), qw, e48])
        have b2 : (M.1 45 (m - w) + (3 * nI w) <<< (16 &&& 31) - 2 * sh).toInt = f (m - w) + (3 * (w : Int) * 65536 - 2 * (s : Int)) := (by have c1 := hf (m - w); rw [sc_sub (by omega) (by omega), b1, e2s]; omega)
        refine pv_iconst (pc := 88) (v := 3) (by decide) (fm_dec dtX10_addToRoom 50 rfl) ?_
        refine pv_iloadn (pc := 89) (n := 3) 3 rfl rfl (fm_dec dtX10_addToRoom 51 rfl) ?_
        refine pv_imul (pc := 90) (fm_dec dtX10_addToRoom 52 rfl) ?_
        refine pv_bipush (pc := 91) (v := 16) (by decide) (fm_dec dtX10_addToRoom 53 rfl) ?_
        refine pv_ishl (pc := 93) (fm_dec dtX10_addToRoom 54 rfl) ?_
        refine pv_iadd (pc := 94) (fm_dec dtX10_addToRoom 55 rfl) ?_
        refine pv_iconst (pc := 95) (v := 2) (by decide) (fm_dec dtX10_addToRoom 56 rfl) ?_
        refine pv_iload (pc := 96) (i := 4) rfl (fm_dec dtX10_addToRoom 57 rfl) ?_
        refine pv_imul (pc := 98) (fm_dec dtX10_addToRoom 58 rfl) ?_
        refine pv_isub (pc := 99) (fm_dec dtX10_addToRoom 59 rfl) ?_
        refine pv_mm (pc := 100) pmm_X10_357 (by decide) (Nat.le_of_ble_eq_true rfl) (fm_dec dtX10_addToRoom 60 rfl) ?_
        refine pv_istore (pc := 103) (i := 6) (by decide) rfl (fm_dec dtX10_addToRoom 61 rfl) ?_
        dsimp only [List.set_cons_zero, List.set_cons_succ]
        refine pv_aloadn (pc := 105) (n := 0) 0 rfl rfl (fm_dec dtX10_addToRoom 62 rfl) ?_
        refine pv_getR (k := 0) (j := 12) (ci := 10) (pc := 106) 45 rfl (by decide) pfl_X10_87 (by decide) rfl (by decide) (fm_dec dtX10_addToRoom 63 rfl) ?_
        refine pv_iload (pc := 109) (i := 5) rfl (fm_dec dtX10_addToRoom 64 rfl) ?_
        refine pv_iload (pc := 111) (i := 6) rfl (fm_dec dtX10_addToRoom 65 rfl) ?_
        refine pv_iast (k := 45) (n := 201) (pc := 113) (by decide) rfl rfl (ar_in ha (by omega)) (fm_dec dtX10_addToRoom 66 rfl) ?_
        refine pv_iincc (pc := 114) 5 (-1) (by decide) rfl (by decide) rfl (fm_dec dtX10_addToRoom 67 rfl) ?_
        dsimp only [List.set_cons_zero, List.set_cons_succ]
        refine pv_goto (pc := 117) 27 (by decide) (fm_dec dtX10_addToRoom 68 rfl) ?_
        rw [i32_cl ha]
        refine ih _ _ _ (by omega) (ar_d ha (by omega)) (fun j hj h9 => ?_) (fun j hj h9 => ?_) (fun k j hk => by rw [fmI_k _ _ hk]; exact h1 k j hk) h2
        · by_cases ej : j = m
          · rw [ej, fmI_s, mxt, mxt, q0, a2, b2, rmT4 h3 hwm]
          · rw [fmI_j _ _ ej]
            exact hup j (by omega) h9
        · rw [fmI_j _ _ (by omega)]
          exact hlo j (by omega) h9
set_option maxRecDepth 20000 in
theorem c_xat {M : fmM} {Q : fmR → fmM → Prop} {D : dD} {i r : Nat} {f : Nat → Int} (hD : dOk D) (hX : xdw 3 M D) (hi : i < D.1) (hr : r ≤ 200) (hf : ∀ a, -65536 ≤ f a ∧ f a ≤ 200000000) (hlo : ∀ j, j ≤ r → (M.1 45 j).toInt = f j) (hq : ∀ M' : fmM, (∀ j, j ≤ r → (M'.1 45 j).toInt = rmO true (wsD D i) (rmS i : Int) f j) → (∀ k j, k ≠ 45 → M'.1 k j = M.1 k j) → M'.2 = M.2 → Q (.inl none) M') : pvGood Tx 1 qX10_addToRoom [.ref 0, .int (nI i), .int (nI r)] M Q := by
  refine pvGood_of (Nat.le_of_ble_eq_true rfl) ?_
  show pvEv Tx 1 qX10_addToRoom 0 [some (.ref 0), some (.int (nI i)), some (.int (nI r)), none, none, none, none] [] M Q
  have d8 := hD.1
  have hi9 : (nI i).toInt = (i : Int) := nI_toInt (by omega)
  have hw := wsD_b hD i hi
  have e6 : M.1 6 i = nI (wsD D i) := nI_is ((hX.2.1 i hi 2 (by decide)).trans (by have h9 := (hD.2.2.1 i hi).2.2.1; unfold wsD; omega)) (by omega)
  have e9 : pvMx false (nI r) 200 = nI r := i32_ext (by rw [mxf]; have z : (200 : Int32).toInt = 200 := (by decide); have z2 : (nI r).toInt = (r : Int) := nI_toInt (by omega); omega)
  refine pv_aloadn (pc := 0) (n := 0) 0 rfl rfl (fm_dec dtX10_addToRoom 0 rfl) ?_
  refine pv_getR (k := 0) (j := 1) (ci := 10) (pc := 1) 3 rfl (by decide) pfl_X10_19 (by decide) rfl (by decide) (fm_dec dtX10_addToRoom 1 rfl) ?_
  refine pv_getR (k := 3) (j := 2) (ci := 8) (pc := 4) 6 rfl (by decide) pfl_X10_207 (by decide) rfl (by decide) (fm_dec dtX10_addToRoom 2 rfl) ?_
  refine pv_iloadn (pc := 7) (n := 1) 1 rfl rfl (fm_dec dtX10_addToRoom 3 rfl) ?_
  refine pv_iald (k := 6) (n := 8) (pc := 8) (by decide) rfl rfl (ix_in hi9 (by omega)) (fm_dec dtX10_addToRoom 4 rfl) ?_
  rw [i32_cl hi9, e6]
  refine pv_istoren (pc := 9) (n := 3) 3 rfl (by decide) rfl (fm_dec dtX10_addToRoom 5 rfl) ?_
  dsimp only [List.set_cons_zero, List.set_cons_succ]
  refine pv_iconst (pc := 10) (v := 1) (by decide) (fm_dec dtX10_addToRoom 6 rfl) ?_
  refine pv_iloadn (pc := 11) (n := 1) 1 rfl rfl (fm_dec dtX10_addToRoom 7 rfl) ?_
  refine pv_iS1 (d' := 0) (pc := 12) pcs_X10_328 (Nat.le_of_ble_eq_true rfl) (by decide) (fm_dec dtX10_addToRoom 8 rfl) ?_
  refine c_rsh ?_
  refine pv_then1 ?_
  refine pv_ishl (pc := 15) (fm_dec dtX10_addToRoom 9 rfl) ?_
  refine pv_istore (pc := 16) (i := 4) (by decide) rfl (fm_dec dtX10_addToRoom 10 rfl) ?_
  dsimp only [List.set_cons_zero, List.set_cons_succ]
  refine pv_iloadn (pc := 18) (n := 2) 2 rfl rfl (fm_dec dtX10_addToRoom 11 rfl) ?_
  refine pv_sipush (pc := 19) (v := 200) (by decide) (fm_dec dtX10_addToRoom 12 rfl) ?_
  refine pv_mm (pc := 22) pmm_X10_352 (by decide) (Nat.le_of_ble_eq_true rfl) (fm_dec dtX10_addToRoom 13 rfl) ?_
  rw [e9]
  refine pv_istore (pc := 25) (i := 5) (by decide) rfl (fm_dec dtX10_addToRoom 14 rfl) ?_
  dsimp only [List.set_cons_zero, List.set_cons_succ]
  exact xat_loop (s := rmS i) (rsh8 i (by omega)) (rmS_8 i (by omega)) hw hr hf hq (r + 1) M _ _ (Nat.le_refl _) (by have z2 : (nI r).toInt = (r : Int) := nI_toInt (by omega); omega) (fun j a b => by omega) (fun j a b => hlo j b) (fun _ _ _ => rfl) rfl
set_option maxRecDepth 20000 in
theorem xfr_loop {Q : fmR → fmM → Prop} {M0 : fmM} {D : dD} {lv r : Nat} (hD : dOk D) (hX : xdw 3 M0 D) (hlv : lv < 256) (hr : r ≤ 200) : ∀ (m : Nat) (n : Nat) (M : fmM), n ≤ D.1 → D.1 - n = m → (∀ j, j ≤ r → (M.1 45 j).toInt = rmK (Nat.testBit lv) (wsD D) n 0 j) → (∀ k j, k ≠ 45 → M.1 k j = M0.1 k j) → M.2 = M0.2 → (∀ (x : Int32) (M' : fmM), x.toInt = rmK (Nat.testBit lv) (wsD D) D.1 0 r → (∀ k j, k ≠ 45 → M'.1 k j = M0.1 k j) → M'.2 = M0.2 → Q (.inl (some (.int x))) M') → pvEv Tx 3 qX10_fillRoom 10 [some (.ref 0), some (.int (nI lv)), some (.int (nI r)), some (.int (nI n))] [] M Q := by
  intro m
  induction m using Nat.strongRecOn with
  | _ m ih =>
    intro n M hnD hm hf h1 h2 hq
    have d8 := hD.1
    have hn9 : (nI n).toInt = (n : Int) := nI_toInt (by omega)
    have hr9 : (nI r).toInt = (r : Int) := nI_toInt (by omega)
    have h39 : (M.1 3 9).toInt = (D.1 : Int) := (by rw [h1 3 9 (by decide)]; exact hX.1.1)
    refine pv_iloadn (pc := 10) (n := 3) 3 rfl rfl (fm_dec dtX10_fillRoom 6 rfl) ?_
    refine pv_aloadn (pc := 11) (n := 0) 0 rfl rfl (fm_dec dtX10_fillRoom 7 rfl) ?_
    refine pv_getR (k := 0) (j := 1) (ci := 10) (pc := 12) 3 rfl (by decide) pfl_X10_19 (by decide) rfl (by decide) (fm_dec dtX10_fillRoom 8 rfl) ?_
    refine pv_getI (k := 3) (j := 9) (ci := 8) (pc := 15) pfl_X10_138 (by decide) rfl (by decide) (fm_dec dtX10_fillRoom 9 rfl) ?_
    refine pv_icmp_ge (pc := 18) 41 (by decide) (fm_dec dtX10_fillRoom 10 rfl) (fun hc18 => ?_) (fun hc18 => ?_)
    · refine pv_iloadn (pc := 41) (n := 2) 2 rfl rfl (fm_dec dtX10_fillRoom 23 rfl) ?_
      refine pv_if_lt (pc := 42) 63 (by decide) (fm_dec dtX10_fillRoom 24 rfl) (fun hc42 => by exfalso; rw [sc_lt] at hc42; have z : (0 : Int32).toInt = 0 := (by decide); omega) (fun _ => ?_)
      refine pv_iloadn (pc := 45) (n := 2) 2 rfl rfl (fm_dec dtX10_fillRoom 25 rfl) ?_
      refine pv_aloadn (pc := 46) (n := 0) 0 rfl rfl (fm_dec dtX10_fillRoom 26 rfl) ?_
      refine pv_getR (k := 0) (j := 12) (ci := 10) (pc := 47) 45 rfl (by decide) pfl_X10_87 (by decide) rfl (by decide) (fm_dec dtX10_fillRoom 27 rfl) ?_
      refine pv_alenI (k := 45) (n := 201) (v := 201) (pc := 50) (by decide) rfl rfl (by decide) (fm_dec dtX10_fillRoom 28 rfl) ?_
      refine pv_icmp_ge (pc := 51) 63 (by decide) (fm_dec dtX10_fillRoom 29 rfl) (fun hc51 => by exfalso; rw [sc_le] at hc51; have z : (201 : Int32).toInt = 201 := (by decide); omega) (fun _ => ?_)
      refine pv_aloadn (pc := 54) (n := 0) 0 rfl rfl (fm_dec dtX10_fillRoom 30 rfl) ?_
      refine pv_getR (k := 0) (j := 12) (ci := 10) (pc := 55) 45 rfl (by decide) pfl_X10_87 (by decide) rfl (by decide) (fm_dec dtX10_fillRoom 31 rfl) ?_
      refine pv_iloadn (pc := 58) (n := 2) 2 rfl rfl (fm_dec dtX10_fillRoom 32 rfl) ?_
      refine pv_iald (k := 45) (n := 201) (pc := 59) (by decide) rfl rfl (ix_in hr9 (by omega)) (fm_dec dtX10_fillRoom 33 rfl) ?_
      rw [i32_cl hr9]
      refine pv_goto (pc := 60) 64 (by decide) (fm_dec dtX10_fillRoom 34 rfl) ?_
      exact pv_ireturn (pc := 64) rfl (fm_dec dtX10_fillRoom 36 rfl) (by have e9 : n = D.1 := (by rw [sc_le] at hc18; omega); subst e9; exact hq _ _ (hf r (Nat.le_refl _)) h1 h2)
    · have hn : n < D.1 := (by rw [sc_le] at hc18; omega)
      have hn8 : n < 8 := (by omega)
      refine pv_iloadn (pc := 21) (n := 1) 1 rfl rfl (fm_dec dtX10_fillRoom 11 rfl) ?_
      refine pv_iloadn (pc := 22) (n := 3) 3 rfl rfl (fm_dec dtX10_fillRoom 12 rfl) ?_
      refine pv_ishr (pc := 23) (fm_dec dtX10_fillRoom 13 rfl) ?_
      refine pv_iconst (pc := 24) (v := 1) (by decide) (fm_dec dtX10_fillRoom 14 rfl) ?_
      refine pv_iand (pc := 25) (fm_dec dtX10_fillRoom 15 rfl) ?_
      refine pv_if_eq (pc := 26) 35 (by decide) (fm_dec dtX10_fillRoom 16 rfl) (fun hc26 => ?_) (fun hc26 => ?_)
      · refine pv_iincc (pc := 35) 3 1 (by decide) rfl (by decide) rfl (fm_dec dtX10_fillRoom 21 rfl) ?_
        dsimp only [List.set_cons_zero, List.set_cons_succ]
        refine pv_goto (pc := 38) 10 (by decide) (fm_dec dtX10_fillRoom 22 rfl) ?_
        rw [nI_succ1]
        refine ih (D.1 - (n + 1)) (by omega) (n + 1) M (by omega) rfl (fun j hj => ?_) h1 h2 hq
        rw [rmK_last n 0, Nat.zero_add, (has8z lv hlv n hn8).mp hc26, rm_f]
        exact hf j hj
      · refine pv_aloadn (pc := 29) (n := 0) 0 rfl rfl (fm_dec dtX10_fillRoom 17 rfl) ?_
        refine pv_iloadn (pc := 30) (n := 3) 3 rfl rfl (fm_dec dtX10_fillRoom 18 rfl) ?_
        refine pv_iloadn (pc := 31) (n := 2) 2 rfl rfl (fm_dec dtX10_fillRoom 19 rfl) ?_
        refine pv_invV2 (k := 0) (d' := 1) (pc := 32) pcv_X10_390 (by decide) rfl (Nat.le_of_ble_eq_true rfl) (by decide) (fm_dec dtX10_fillRoom 20 rfl) ?_
        refine c_xat hD (hX.of (fun k j a b => h1 k j (by omega))) hn hr (fun a => by obtain ⟨wt, c, e, b1, b2⟩ := rmK_form (hs := Nat.testBit lv) d8 (wsD_b hD) n 0 a (by omega); have z : (4 : Nat) ^ (8 - 0) = 65536 := (by decide); omega) hf (fun M32 g32 k32 l32 => ?_)
        refine pv_then0 ?_
        refine pv_iincc (pc := 35) 3 1 (by decide) rfl (by decide) rfl (fm_dec dtX10_fillRoom 21 rfl) ?_
        dsimp only [List.set_cons_zero, List.set_cons_succ]
        refine pv_goto (pc := 38) 10 (by decide) (fm_dec dtX10_fillRoom 22 rfl) ?_
        rw [nI_succ1]
        refine ih (D.1 - (n + 1)) (by omega) (n + 1) M32 (by omega) rfl (fun j hj => ?_) (fun k j hk => (k32 k j hk).trans (h1 k j hk)) (l32.trans h2) hq
        rw [rmK_last n 0, Nat.zero_add, show Nat.testBit lv n = true from (by cases h9 : Nat.testBit lv n with | true => rfl | false => exact absurd ((has8z lv hlv n hn8).mpr h9) hc26)]
        exact g32 j hj
set_option maxRecDepth 20000 in
theorem c_xfr {M : fmM} {Q : fmR → fmM → Prop} {D : dD} {lv r : Nat} (hD : dOk D) (hX : xdw 3 M D) (hlv : lv < 256) (hr : r ≤ 200) (hq : ∀ (x : Int32) (M' : fmM), x.toInt = rmK (Nat.testBit lv) (wsD D) D.1 0 r → (∀ k j, k ≠ 45 → M'.1 k j = M.1 k j) → M'.2 = M.2 → Q (.inl (some (.int x))) M') : pvGood Tx 3 qX10_fillRoom [.ref 0, .int (nI lv), .int (nI r)] M Q := by
  refine pvGood_of (Nat.le_of_ble_eq_true rfl) ?_
  show pvEv Tx 3 qX10_fillRoom 0 [some (.ref 0), some (.int (nI lv)), some (.int (nI r)), none] [] M Q
  refine pv_aloadn (pc := 0) (n := 0) 0 rfl rfl (fm_dec dtX10_fillRoom 0 rfl) ?_
  refine pv_getR (k := 0) (j := 12) (ci := 10) (pc := 1) 45 rfl (by decide) pfl_X10_87 (by decide) rfl (by decide) (fm_dec dtX10_fillRoom 1 rfl) ?_
  refine pv_iconst (pc := 4) (v := 0) (by decide) (fm_dec dtX10_fillRoom 2 rfl) ?_
  refine pv_iS2 (d' := 1) (pc := 5) pcs_X10_384 (Nat.le_of_ble_eq_true rfl) (by decide) (fm_dec dtX10_fillRoom 3 rfl) ?_
  refine c_xfi (fun M5 g5 k5 l5 => ?_)
  refine pv_then0 ?_
  refine pv_iconst (pc := 8) (v := 0) (by decide) (fm_dec dtX10_fillRoom 4 rfl) ?_
  refine pv_istoren (pc := 9) (n := 3) 3 rfl (by decide) rfl (fm_dec dtX10_fillRoom 5 rfl) ?_
  dsimp only [List.set_cons_zero, List.set_cons_succ]
  exact xfr_loop hD hX hlv hr D.1 0 M5 (Nat.zero_le _) rfl (fun j hj => by rw [g5 j (by omega)]; show (0 : Int32).toInt = (0 : Int); decide) k5 l5 hq
set_option maxRecDepth 20000 in
theorem c_needB {M : fmM} {Q : fmR → fmM → Prop} {D : dD} {x : Int32} (hD : dOk D) (hX : xdw 3 M D) (hq : inW x 0 (1 <<< (nI D.1 &&& 31) - 1) → Q (.inl none) M) (hf : ¬ inW x 0 (1 <<< (nI D.1 &&& 31) - 1) → Q (.inr fmIAE) (fmI M 0 16 (M.1 0 16 + 1))) : pvGood Tx 1 qX10_needBits [.ref 0, .int x] M Q := by
  refine pvGood_of (Nat.le_of_ble_eq_true rfl) ?_
  show pvEv Tx 1 qX10_needBits 0 [some (.ref 0), some (.int x)] [] M Q
  have e39 : M.1 3 9 = nI D.1 := nI_is hX.1.1 (by have := hD.1; omega)
  refine pv_aloadn (pc := 0) (n := 0) 0 rfl rfl (fm_dec dtX10_needBits 0 rfl) ?_
  refine pv_iloadn (pc := 1) (n := 1) 1 rfl rfl (fm_dec dtX10_needBits 1 rfl) ?_
  refine pv_iconst (pc := 2) (v := 0) (by decide) (fm_dec dtX10_needBits 2 rfl) ?_
  refine pv_iconst (pc := 3) (v := 1) (by decide) (fm_dec dtX10_needBits 3 rfl) ?_
  refine pv_aloadn (pc := 4) (n := 0) 0 rfl rfl (fm_dec dtX10_needBits 4 rfl) ?_
  refine pv_getR (k := 0) (j := 1) (ci := 10) (pc := 5) 3 rfl (by decide) pfl_X10_19 (by decide) rfl (by decide) (fm_dec dtX10_needBits 5 rfl) ?_
  refine pv_getI (k := 3) (j := 9) (ci := 8) (pc := 8) pfl_X10_138 (by decide) rfl (by decide) (fm_dec dtX10_needBits 6 rfl) ?_
  refine pv_ishl (pc := 11) (fm_dec dtX10_needBits 7 rfl) ?_
  refine pv_iconst (pc := 12) (v := 1) (by decide) (fm_dec dtX10_needBits 8 rfl) ?_
  refine pv_isub (pc := 13) (fm_dec dtX10_needBits 9 rfl) ?_
  rw [e39]
  refine pv_invV3 (k := 0) (d' := 0) (pc := 14) pcv_X10_169 (by decide) rfl (Nat.le_of_ble_eq_true rfl) (by decide) (fm_dec dtX10_needBits 10 rfl) ?_
  refine c_needW (fun h14a h14b => ?_) (fun h14 => ?_)
  · refine pv_then0 ?_
    exact pv_return (pc := 17) rfl (fm_dec dtX10_needBits 11 rfl) (hq ⟨h14a, h14b⟩)
  · refine pv_thenX ?_
    exact hf h14
set_option maxRecDepth 20000 in
theorem c_areL {M : fmM} {Q : fmR → fmM → Prop} {D : dD} {x : Int32} (hD : dOk D) (hY : mdw M D) (hq : inW x 0 (1 <<< (nI D.1 &&& 31) - 1) → Q (.inl (some (.int 1))) M) (hf : ¬ inW x 0 (1 <<< (nI D.1 &&& 31) - 1) → Q (.inl (some (.int 0))) M) : pvGood Tm 1 qX11_areLives [.ref 0, .int x] M Q := by
  refine pvGood_of (Nat.le_of_ble_eq_true rfl) ?_
  show pvEv Tm 1 qX11_areLives 0 [some (.ref 0), some (.int x)] [] M Q
  have e39 : M.1 4 (Int32.toNatClampNeg 0) = nI D.1 := nI_is hY.1 (by have := hD.1; omega)
  refine pv_iloadn (pc := 0) (n := 1) 1 rfl rfl (fm_dec dtX11_areLives 0 rfl) ?_
  refine pv_iconst (pc := 1) (v := 0) (by decide) (fm_dec dtX11_areLives 1 rfl) ?_
  refine pv_iconst (pc := 2) (v := 1) (by decide) (fm_dec dtX11_areLives 2 rfl) ?_
  refine pv_aloadn (pc := 3) (n := 0) 0 rfl rfl (fm_dec dtX11_areLives 3 rfl) ?_
  refine pv_getR (k := 0) (j := 12) (ci := 11) (pc := 4) 4 rfl (by decide) pfl_X11_23 (by decide) rfl (by decide) (fm_dec dtX11_areLives 4 rfl) ?_
  refine pv_iconst (pc := 7) (v := 0) (by decide) (fm_dec dtX11_areLives 5 rfl) ?_
  refine pv_iald (k := 4) (n := 6) (pc := 8) (by decide) rfl rfl (fm_inl (by decide)) (fm_dec dtX11_areLives 6 rfl) ?_
  refine pv_ishl (pc := 9) (fm_dec dtX11_areLives 7 rfl) ?_
  refine pv_iconst (pc := 10) (v := 1) (by decide) (fm_dec dtX11_areLives 8 rfl) ?_
  refine pv_isub (pc := 11) (fm_dec dtX11_areLives 9 rfl) ?_
  rw [e39]
  refine pv_iS3 (d' := 0) (pc := 12) pcs_X11_135 (Nat.le_of_ble_eq_true rfl) (by decide) (fm_dec dtX11_areLives 10 rfl) ?_
  refine c_in (fun h12a h12b => ?_) (fun h12 => ?_)
  · refine pv_then1 ?_
    exact pv_zreturn (pc := 15) rfl (by first | exact Or.inr rfl | exact Or.inl rfl) (fm_dec dtX11_areLives 11 rfl) (by first | exact hq ⟨h12a, h12b⟩ | exact hf h12)
  · refine pv_then1 ?_
    exact pv_zreturn (pc := 15) rfl (by first | exact Or.inr rfl | exact Or.inl rfl) (fm_dec dtX11_areLives 11 rfl) (by first | exact hq ⟨h12a, h12b⟩ | exact hf h12)
/-- only the two results change -/
def rmC (M M' : fmM) : Prop := (∀ k j, k ≠ 0 → k ≠ 15 → M'.1 k j = M.1 k j) ∧ (∀ j, j ≠ 46 → M'.1 0 j = M.1 0 j) ∧ M'.2 = M.2
theorem rmC.b {M M1 : fmM} {j : Nat} {x : Int32} (h : rmC M M1) : rmC M (fmI M1 15 j x) := ⟨fun k j' a b => by rw [fmI_k _ _ b]; exact h.1 k j' a b, fun j' a => by rw [fmI_k _ _ (by decide)]; exact h.2.1 j' a, h.2.2⟩
theorem rmC.f {M M1 : fmM} (h : rmC M M1) : rmFr M M1 := ⟨fun k j a _ c => h.1 k j a c, h.2.1, h.2.2⟩
set_option maxRecDepth 20000 in
theorem mrc_loop {Q : fmR → fmM → Prop} {M0 : fmM} {i lv l wo : Nat} {v : Int32} (hq : ∀ M' : fmM, rmC M0 M' → (∀ j, j < 8 → M'.1 15 j = M0.1 14 j) → M'.1 0 46 = v → Q (.inl none) M') : ∀ (m k : Nat) (M : fmM), k + m = 8 → rmC M0 M → (∀ j, j < k → M.1 15 j = M0.1 14 j) → M.1 0 46 = v → pvEv Tm 1 qX11_rooms 29 [some (.ref 0), some (.int (nI i)), some (.int (nI lv)), some (.int (nI l)), some (.int (nI wo)), some (.int (nI k))] [] M Q := by
  intro m
  induction m with
  | zero =>
    intro k M hk hF hc h46
    have hk9 : (nI k).toInt = (k : Int) := nI_toInt (by omega)
    refine pv_iload (pc := 29) (i := 5) rfl (fm_dec dtX11_rooms 16 rfl) ?_
    refine pv_bipush (pc := 31) (v := 8) (by decide) (fm_dec dtX11_rooms 17 rfl) ?_
    refine pv_icmp_ge (pc := 33) 56 (by decide) (fm_dec dtX11_rooms 18 rfl) (fun _ => ?_) (fun hc33 => by exfalso; apply hc33; rw [sc_le]; have z : (8 : Int32).toInt = 8 := (by decide); omega)
    exact pv_return (pc := 56) rfl (fm_dec dtX11_rooms 29 rfl) (hq M hF (fun j hj => hc j (by omega)) h46)
  | succ m ih =>
    intro k M hk hF hc h46
    have hk9 : (nI k).toInt = (k : Int) := nI_toInt (by omega)
    refine pv_iload (pc := 29) (i := 5) rfl (fm_dec dtX11_rooms 16 rfl) ?_
    refine pv_bipush (pc := 31) (v := 8) (by decide) (fm_dec dtX11_rooms 17 rfl) ?_
    refine pv_icmp_ge (pc := 33) 56 (by decide) (fm_dec dtX11_rooms 18 rfl) (fun hc33 => by exfalso; rw [sc_le] at hc33; have z : (8 : Int32).toInt = 8 := (by decide); omega) (fun _ => ?_)
    refine pv_aloadn (pc := 36) (n := 0) 0 rfl rfl (fm_dec dtX11_rooms 19 rfl) ?_
    refine pv_getR (k := 0) (j := 45) (ci := 11) (pc := 37) 15 rfl (by decide) pfl_X11_92 (by decide) rfl (by decide) (fm_dec dtX11_rooms 20 rfl) ?_
    refine pv_iload (pc := 40) (i := 5) rfl (fm_dec dtX11_rooms 21 rfl) ?_
    refine pv_aloadn (pc := 42) (n := 0) 0 rfl rfl (fm_dec dtX11_rooms 22 rfl) ?_
    refine pv_getR (k := 0) (j := 44) (ci := 11) (pc := 43) 14 rfl (by decide) pfl_X11_89 (by decide) rfl (by decide) (fm_dec dtX11_rooms 23 rfl) ?_
    refine pv_iload (pc := 46) (i := 5) rfl (fm_dec dtX11_rooms 24 rfl) ?_
    refine pv_iald (k := 14) (n := 8) (pc := 48) (by decide) rfl rfl (ix_in hk9 (by omega)) (fm_dec dtX11_rooms 25 rfl) ?_
    rw [i32_cl hk9]
    refine pv_iast (k := 15) (n := 8) (pc := 49) (by decide) rfl rfl (ix_in hk9 (by omega)) (fm_dec dtX11_rooms 26 rfl) ?_
    rw [i32_cl hk9]
    refine pv_iincc (pc := 50) 5 1 (by decide) rfl (by decide) rfl (fm_dec dtX11_rooms 27 rfl) ?_
    dsimp only [List.set_cons_zero, List.set_cons_succ]
    refine pv_goto (pc := 53) 29 (by decide) (fm_dec dtX11_rooms 28 rfl) ?_
    rw [nI_succ1]
    refine ih (k + 1) _ (by omega) (hF.b) (fun j hj => ?_) (by rw [fmI_k _ _ (by decide)]; exact h46)
    by_cases e : j = k
    · rw [e, fmI_s]
      exact hF.1 14 k (by decide) (by decide)
    · rw [fmI_j _ _ e]
      exact hc j (by omega)
set_option maxRecDepth 20000 in
theorem rm_P0 {D : dD} {lv : Nat} (hD : dOk D) (hlv : lv < 256) : RmP D lv 0 := by
  intro M Q i l wo pc x him hl hwo hpc hp hb hY hG hB hq
  have d8 := hD.1
  have hi9 : (nI i).toInt = (i : Int) := nI_toInt (by omega)
  have hl9 : (nI l).toInt = (l : Int) := nI_toInt (by omega)
  have hwo9 : (nI wo).toInt = (wo : Int) := nI_toInt (by omega)
  have h40 : (M.1 4 (Int32.toNatClampNeg 0)).toInt = (D.1 : Int) := hY.1
  refine pvGood_of (Nat.le_of_ble_eq_true rfl) ?_
  show pvEv Tm (0 + 1) qX11_rooms 0 [some (.ref 0), some (.int (nI i)), some (.int (nI lv)), some (.int (nI l)), some (.int (nI wo)), none] [] M Q
  refine pv_iloadn (pc := 0) (n := 1) 1 rfl rfl (fm_dec dtX11_rooms 0 rfl) ?_
  refine pv_aloadn (pc := 1) (n := 0) 0 rfl rfl (fm_dec dtX11_rooms 1 rfl) ?_
  refine pv_getR (k := 0) (j := 12) (ci := 11) (pc := 2) 4 rfl (by decide) pfl_X11_23 (by decide) rfl (by decide) (fm_dec dtX11_rooms 2 rfl) ?_
  refine pv_iconst (pc := 5) (v := 0) (by decide) (fm_dec dtX11_rooms 3 rfl) ?_
  refine pv_iald (k := 4) (n := 6) (pc := 6) (by decide) rfl rfl (fm_inl (by decide)) (fm_dec dtX11_rooms 4 rfl) ?_
  refine pv_icmp_ne (pc := 7) 57 (by decide) (fm_dec dtX11_rooms 5 rfl) (fun hc7 => by exfalso; apply hc7; exact i32_ext (by omega)) (fun _ => ?_)
  have eK : wtK ((wo : Int) * 65536 - (pc : Int) + rmK (Nat.testBit lv) (wsD D) 0 i l) = (wo : Int) := (by have h9 := wt_1 (wo := wo) (pc := pc) (K := rmK (Nat.testBit lv) (wsD D) 0 i l) (w := 0) (c := 0) rfl (by omega); rw [h9]; rfl)
  refine pv_iload (pc := 10) (i := 4) rfl (fm_dec dtX11_rooms 6 rfl) ?_
  refine pv_aloadn (pc := 12) (n := 0) 0 rfl rfl (fm_dec dtX11_rooms 7 rfl) ?_
  refine pv_getI (k := 0) (j := 46) (ci := 11) (pc := 13) pfl_X11_400 (by decide) rfl (by decide) (fm_dec dtX11_rooms 8 rfl) ?_
  refine pv_icmp_gt (pc := 16) 20 (by decide) (fm_dec dtX11_rooms 9 rfl) (fun hc16 => ?_) (fun hc16 => ?_)
  · refine pv_aloadn (pc := 20) (n := 0) 0 rfl rfl (fm_dec dtX11_rooms 11 rfl) ?_
    refine pv_iload (pc := 21) (i := 4) rfl (fm_dec dtX11_rooms 12 rfl) ?_
    refine pv_putI (k := 0) (j := 46) (ci := 11) (pc := 23) pfl_X11_400 (by decide) rfl (by decide) (fm_dec dtX11_rooms 13 rfl) ?_
    refine pv_iconst (pc := 26) (v := 0) (by decide) (fm_dec dtX11_rooms 14 rfl) ?_
    refine pv_istore (pc := 27) (i := 5) (by decide) rfl (fm_dec dtX11_rooms 15 rfl) ?_
    dsimp only [List.set_cons_zero, List.set_cons_succ]
    have e9 : rmU (wsD D) x ((wo : Int) * 65536 - (pc : Int) + rmK (Nat.testBit lv) (wsD D) 0 i l) = ((wo : Int), fun k => ((gvR (wsD D) pc k : Nat) : Int)) := (by have ec : cdK ((wo : Int) * 65536 - (pc : Int) + rmK (Nat.testBit lv) (wsD D) 0 i l) = pc := (by have h9 := cdK_of (wt := wo) (c := pc) hpc; rw [show ((wo : Int) * 65536 - (pc : Int) + rmK (Nat.testBit lv) (wsD D) 0 i l) = (wo : Int) * 65536 - (pc : Int) from Int.add_zero _]; exact h9); unfold rmU; rw [eK, if_pos (by have h8 := sc_lt.mp hc16; have h9 := hB.1; omega), ec])
    refine mrc_loop (M0 := fmI M 0 46 (nI wo)) (v := nI wo) (fun M' hF hc h46 => hq M' ?_ ?_ ?_) 8 0 _ rfl ⟨fun _ _ _ _ => rfl, fun _ _ => rfl, rfl⟩ (fun j hj => absurd hj (Nat.not_lt_zero _)) (by rw [fmI_s])
    · exact ⟨fun k j a b c => (hF.1 k j a c).trans (congrFun (fmI_k _ _ a) j), fun j a => (hF.2.1 j a).trans (fmI_j _ _ a), hF.2.2⟩
    · exact fun k hk => by rw [hF.1 14 k (by decide) (by decide), fmI_k _ _ (by decide)]; exact hG k hk
    · rw [e9]
      exact ⟨by rw [h46]; exact hwo9, fun k hk => by rw [hc k hk, fmI_k _ _ (by decide)]; exact hG k hk⟩
  · exact pv_return (pc := 19) rfl (fm_dec dtX11_rooms 10 rfl) (by have e9 : rmU (wsD D) x ((wo : Int) * 65536 - (pc : Int) + rmK (Nat.testBit lv) (wsD D) 0 i l) = x := (by unfold rmU; rw [eK]; exact if_neg (fun h9 => hc16 (sc_lt.mpr (by have h8 := hB.1; omega)))); exact hq M (rmFr.refl M) hG (by rw [e9]; exact hB))
theorem nI_ad {a b : Nat} : nI a + nI b = nI (a + b) := by
  show Int32.ofNat a + Int32.ofNat b = Int32.ofNat (a + b)
  rw [Int32.ofNat_add]
set_option maxRecDepth 20000 in
theorem rm_PS {D : dD} {lv m : Nat} (hD : dOk D) (hlv : lv < 256) (ih : RmP D lv m) : RmP D lv (m + 1) := by
  intro M Q i l wo pc x him hl hwo hpc hp hb hY hG hB hq
  have d8 := hD.1
  have hi9 : (nI i).toInt = (i : Int) := nI_toInt (by omega)
  have hl9 : (nI l).toInt = (l : Int) := nI_toInt (by omega)
  have hwo9 : (nI wo).toInt = (wo : Int) := nI_toInt (by omega)
  have h40 : (M.1 4 (Int32.toNatClampNeg 0)).toInt = (D.1 : Int) := hY.1
  refine pvGood_of (Nat.le_of_ble_eq_true rfl) ?_
  have hi : i < D.1 := (by omega)
  have hi8 : i < 8 := (by omega)
  have hS4 : 4 ^ (8 - (i + 1)) = rmS i := (by rw [show 8 - (i + 1) = 7 - i by omega]; rfl)
  have hp4 : pc % (4 * rmS i) = 0 := (by rw [← rmS_4 i hi8]; exact hp)
  have hpb := pc_b i hi8 pc hp4 hpc
  have hs1 : 1 ≤ rmS i := Nat.pow_pos (by decide)
  obtain ⟨w, hwe⟩ : ∃ w, w = wsD D i := ⟨_, rfl⟩
  have hw := wsD_b hD i hi
  rw [← hwe] at hw
  have hwn : (nI w).toInt = (w : Int) := nI_toInt (by omega)
  have z3 : (3 : Int32).toInt = 3 := (by decide)
  obtain ⟨w0, c0, f0, g0, b0⟩ := rmK_form (hs := Nat.testBit lv) d8 (wsD_b hD) m (i + 1) l (by omega)
  obtain ⟨w1, c1, f1, g1, b1⟩ := rmK_form (hs := Nat.testBit lv) d8 (wsD_b hD) m (i + 1) (l - 3) (by omega)
  obtain ⟨w2, c2, f2, g2, b2⟩ := rmK_form (hs := Nat.testBit lv) d8 (wsD_b hD) m (i + 1) (l - w) (by omega)
  rw [hS4] at g0 g1 g2
  have t1 : wtK ((((wo) : Nat) : Int) * 65536 - (((pc) : Nat) : Int) + rmK (Nat.testBit lv) (wsD D) m (i + 1) (l)) = _ := wt_1 f0 (by omega)
  have t2 : wtK ((((wo + w) : Nat) : Int) * 65536 - (((pc + 1 * rmS i) : Nat) : Int) + rmK (Nat.testBit lv) (wsD D) m (i + 1) (l - 3)) = _ := wt_1 f1 (by omega)
  have t3 : wtK ((((wo + 3 * w) : Nat) : Int) * 65536 - (((pc + 2 * rmS i) : Nat) : Int) + rmK (Nat.testBit lv) (wsD D) m (i + 1) (l - w)) = _ := wt_1 f2 (by omega)
  have u12 : wtK ((((wo) : Nat) : Int) * 65536 - (((pc) : Nat) : Int) + rmK (Nat.testBit lv) (wsD D) m (i + 1) (l)) = wtK ((((wo + w) : Nat) : Int) * 65536 - (((pc + 1 * rmS i) : Nat) : Int) + rmK (Nat.testBit lv) (wsD D) m (i + 1) (l - 3)) → ((((wo + w) : Nat) : Int) * 65536 - (((pc + 1 * rmS i) : Nat) : Int) + rmK (Nat.testBit lv) (wsD D) m (i + 1) (l - 3)) ≤ ((((wo) : Nat) : Int) * 65536 - (((pc) : Nat) : Int) + rmK (Nat.testBit lv) (wsD D) m (i + 1) (l)) := (fun h => by rw [t1, t2] at h; rw [f0, f1]; omega)
  have u13 : wtK ((((wo) : Nat) : Int) * 65536 - (((pc) : Nat) : Int) + rmK (Nat.testBit lv) (wsD D) m (i + 1) (l)) = wtK ((((wo + 3 * w) : Nat) : Int) * 65536 - (((pc + 2 * rmS i) : Nat) : Int) + rmK (Nat.testBit lv) (wsD D) m (i + 1) (l - w)) → ((((wo + 3 * w) : Nat) : Int) * 65536 - (((pc + 2 * rmS i) : Nat) : Int) + rmK (Nat.testBit lv) (wsD D) m (i + 1) (l - w)) ≤ ((((wo) : Nat) : Int) * 65536 - (((pc) : Nat) : Int) + rmK (Nat.testBit lv) (wsD D) m (i + 1) (l)) := (fun h => by rw [t1, t3] at h; rw [f0, f2]; omega)
  have u23 : wtK ((((wo + w) : Nat) : Int) * 65536 - (((pc + 1 * rmS i) : Nat) : Int) + rmK (Nat.testBit lv) (wsD D) m (i + 1) (l - 3)) = wtK ((((wo + 3 * w) : Nat) : Int) * 65536 - (((pc + 2 * rmS i) : Nat) : Int) + rmK (Nat.testBit lv) (wsD D) m (i + 1) (l - w)) → ((((wo + 3 * w) : Nat) : Int) * 65536 - (((pc + 2 * rmS i) : Nat) : Int) + rmK (Nat.testBit lv) (wsD D) m (i + 1) (l - w)) ≤ ((((wo + w) : Nat) : Int) * 65536 - (((pc + 1 * rmS i) : Nat) : Int) + rmK (Nat.testBit lv) (wsD D) m (i + 1) (l - 3)) := (fun h => by rw [t2, t3] at h; rw [f1, f2]; omega)
  have u4 : wtK (max ((((wo) : Nat) : Int) * 65536 - (((pc) : Nat) : Int) + rmK (Nat.testBit lv) (wsD D) m (i + 1) (l)) ((((wo + w) : Nat) : Int) * 65536 - (((pc + 1 * rmS i) : Nat) : Int) + rmK (Nat.testBit lv) (wsD D) m (i + 1) (l - 3))) = wtK ((((wo + 3 * w) : Nat) : Int) * 65536 - (((pc + 2 * rmS i) : Nat) : Int) + rmK (Nat.testBit lv) (wsD D) m (i + 1) (l - w)) → ((((wo + 3 * w) : Nat) : Int) * 65536 - (((pc + 2 * rmS i) : Nat) : Int) + rmK (Nat.testBit lv) (wsD D) m (i + 1) (l - w)) ≤ max ((((wo) : Nat) : Int) * 65536 - (((pc) : Nat) : Int) + rmK (Nat.testBit lv) (wsD D) m (i + 1) (l)) ((((wo + w) : Nat) : Int) * 65536 - (((pc + 1 * rmS i) : Nat) : Int) + rmK (Nat.testBit lv) (wsD D) m (i + 1) (l - 3)) := (fun h => by rcases (show max ((((wo) : Nat) : Int) * 65536 - (((pc) : Nat) : Int) + rmK (Nat.testBit lv) (wsD D) m (i + 1) (l)) ((((wo + w) : Nat) : Int) * 65536 - (((pc + 1 * rmS i) : Nat) : Int) + rmK (Nat.testBit lv) (wsD D) m (i + 1) (l - 3)) = ((((wo) : Nat) : Int) * 65536 - (((pc) : Nat) : Int) + rmK (Nat.testBit lv) (wsD D) m (i + 1) (l)) ∨ max ((((wo) : Nat) : Int) * 65536 - (((pc) : Nat) : Int) + rmK (Nat.testBit lv) (wsD D) m (i + 1) (l)) ((((wo + w) : Nat) : Int) * 65536 - (((pc + 1 * rmS i) : Nat) : Int) + rmK (Nat.testBit lv) (wsD D) m (i + 1) (l - 3)) = ((((wo + w) : Nat) : Int) * 65536 - (((pc + 1 * rmS i) : Nat) : Int) + rmK (Nat.testBit lv) (wsD D) m (i + 1) (l - 3)) by omega) with e | e; (rw [e] at h ⊢; exact u13 h); (rw [e] at h ⊢; exact u23 h))
  have eK : rmK (Nat.testBit lv) (wsD D) (m + 1) i l = rmO (Nat.testBit lv i) w (rmS i : Int) (rmK (Nat.testBit lv) (wsD D) m (i + 1)) l := (by rw [hwe]; rfl)
  show pvEv Tm (m + 1 + 1) qX11_rooms 0 [some (.ref 0), some (.int (nI i)), some (.int (nI lv)), some (.int (nI l)), some (.int (nI wo)), none] [] M Q
  refine pv_iloadn (pc := 0) (n := 1) 1 rfl rfl (fm_dec dtX11_rooms 0 rfl) ?_
  refine pv_aloadn (pc := 1) (n := 0) 0 rfl rfl (fm_dec dtX11_rooms 1 rfl) ?_
  refine pv_getR (k := 0) (j := 12) (ci := 11) (pc := 2) 4 rfl (by decide) pfl_X11_23 (by decide) rfl (by decide) (fm_dec dtX11_rooms 2 rfl) ?_
  refine pv_iconst (pc := 5) (v := 0) (by decide) (fm_dec dtX11_rooms 3 rfl) ?_
  refine pv_iald (k := 4) (n := 6) (pc := 6) (by decide) rfl rfl (fm_inl (by decide)) (fm_dec dtX11_rooms 4 rfl) ?_
  refine pv_icmp_ne (pc := 7) 57 (by decide) (fm_dec dtX11_rooms 5 rfl) (fun _ => ?_) (fun hc7 => by exfalso; have h8 : nI i = M.1 4 (Int32.toNatClampNeg 0) := (by first | exact hc7 | exact Classical.not_not.mp hc7); have h9 := congrArg Int32.toInt h8; omega)
  refine pv_aloadn (pc := 57) (n := 0) 0 rfl rfl (fm_dec dtX11_rooms 30 rfl) ?_
  refine pv_getR (k := 0) (j := 44) (ci := 11) (pc := 58) 14 rfl (by decide) pfl_X11_89 (by decide) rfl (by decide) (fm_dec dtX11_rooms 31 rfl) ?_
  refine pv_iloadn (pc := 61) (n := 1) 1 rfl rfl (fm_dec dtX11_rooms 32 rfl) ?_
  refine pv_iconst (pc := 62) (v := 0) (by decide) (fm_dec dtX11_rooms 33 rfl) ?_
  refine pv_iast (k := 14) (n := 8) (pc := 63) (by decide) rfl rfl (ix_in hi9 (by omega)) (fm_dec dtX11_rooms 34 rfl) ?_
  rw [i32_cl hi9]
  refine pv_aloadn (pc := 64) (n := 0) 0 rfl rfl (fm_dec dtX11_rooms 35 rfl) ?_
  refine pv_iloadn (pc := 65) (n := 1) 1 rfl rfl (fm_dec dtX11_rooms 36 rfl) ?_
  refine pv_iconst (pc := 66) (v := 1) (by decide) (fm_dec dtX11_rooms 37 rfl) ?_
  refine pv_iadd (pc := 67) (fm_dec dtX11_rooms 38 rfl) ?_
  refine pv_iloadn (pc := 68) (n := 2) 2 rfl rfl (fm_dec dtX11_rooms 39 rfl) ?_
  refine pv_iloadn (pc := 69) (n := 3) 3 rfl rfl (fm_dec dtX11_rooms 40 rfl) ?_
  refine pv_iload (pc := 70) (i := 4) rfl (fm_dec dtX11_rooms 41 rfl) ?_
  rw [nI_succ1]
  refine pv_invV4 (k := 0) (d' := (m + 1)) (pc := 72) pcv_X11_403 (by decide) rfl (Nat.le_of_ble_eq_true rfl) (by omega) (fm_dec dtX11_rooms 42 rfl) ?_
  refine ih (i + 1) l wo (pc + 0 * rmS i) x (by omega) (by omega) (by omega) (by omega) (pc_n i hi8 pc 0 hp4) hb (hY.k hD (fun k j a => (((rmFr.refl M).g)).1 k j (by omega) (by omega) (by omega))) (by have h9 := hG.put (v := 0) (d := 0) hi8 hp4 (by decide) (by show (0 : Int32).toInt = ((0 : Nat) : Int); decide); exact h9) hB.g (fun M72 r72 y72 b72 => ?_) 
  refine pv_then0 ?_
  refine pv_aloadn (pc := 75) (n := 0) 0 rfl rfl (fm_dec dtX11_rooms 43 rfl) ?_
  refine pv_getR (k := 0) (j := 14) (ci := 11) (pc := 76) 17 rfl (by decide) pfl_X11_31 (by decide) rfl (by decide) (fm_dec dtX11_rooms 44 rfl) ?_
  refine pv_iloadn (pc := 79) (n := 1) 1 rfl rfl (fm_dec dtX11_rooms 45 rfl) ?_
  refine pv_aald (k := 17) (n := 8) (r := (35 + i)) (pc := 80) (by decide) (Or.inr (Or.inr rfl)) rfl (rw_life.inb hi9 hi8) (rw_life.at hi9 hi8) (rw_life.2.2.2 _ hi8).2.1 (fm_dec dtX11_rooms 46 rfl) ?_
  refine pv_iconst (pc := 81) (v := 2) (by decide) (fm_dec dtX11_rooms 47 rfl) ?_
  refine pv_iald (k := (35 + i)) (n := 6) (pc := 82) (rw_life.2.2.2 _ hi8).2.2.1 (rw_life.2.2.2 _ hi8).2.2.2.1 (rw_life.2.2.2 _ hi8).2.2.2.2 (fm_inl (by decide)) (fm_dec dtX11_rooms 48 rfl) ?_
  have e82 : M72.1 (35 + i) (Int32.toNatClampNeg 2) = nI w := nI_is (((hY.k hD (fun k j a => ((((rmFr.refl M).g).trans r72)).1 k j (by omega) (by omega) (by omega))).2.2.2.1 i hi 2 (by decide)).trans (by have h9 := (hD.2.2.1 i hi).2.2.1; rw [hwe]; unfold wsD; omega)) (by omega)
  have b72 : rmB M72 (rmU (wsD D) x ((((wo) : Nat) : Int) * 65536 - (((pc) : Nat) : Int) + rmK (Nat.testBit lv) (wsD D) m (i + 1) (l))) := (by rw [show (((pc + 0 * rmS i : Nat) : Int)) = (pc : Int) by omega] at b72; exact b72)
  rw [e82]
  refine pv_istore (pc := 83) (i := 5) (by decide) rfl (fm_dec dtX11_rooms 49 rfl) ?_
  dsimp only [List.set_cons_zero, List.set_cons_succ]
  refine pv_iloadn (pc := 85) (n := 2) 2 rfl rfl (fm_dec dtX11_rooms 50 rfl) ?_
  refine pv_iloadn (pc := 86) (n := 1) 1 rfl rfl (fm_dec dtX11_rooms 51 rfl) ?_
  refine pv_iS2 (d' := 0) (pc := 87) pcs_X11_256 (Nat.le_of_ble_eq_true rfl) (by omega) (fm_dec dtX11_rooms 52 rfl) ?_
  refine c_has (fun h87 => ?_) (fun h87 => ?_)
  · refine pv_then1 ?_
    refine pv_if_ne (pc := 90) 94 (by decide) (fm_dec dtX11_rooms 53 rfl) (fun _ => ?_) (fun hc90 => by exfalso; revert hc90; decide)
    refine pv_iloadn (pc := 94) (n := 3) 3 rfl rfl (fm_dec dtX11_rooms 55 rfl) ?_
    refine pv_iconst (pc := 95) (v := 3) (by decide) (fm_dec dtX11_rooms 56 rfl) ?_
    refine pv_icmp_lt (pc := 96) 122 (by decide) (fm_dec dtX11_rooms 57 rfl) (fun hc96 => ?_) (fun hc96 => ?_)
    · refine pv_iloadn (pc := 122) (n := 3) 3 rfl rfl (fm_dec dtX11_rooms 75 rfl) ?_
      refine pv_iload (pc := 123) (i := 5) rfl (fm_dec dtX11_rooms 76 rfl) ?_
      refine pv_icmp_lt (pc := 125) 155 (by decide) (fm_dec dtX11_rooms 77 rfl) (fun hc125 => ?_) (fun hc125 => ?_)
      · refine pv_aloadn (pc := 155) (n := 0) 0 rfl rfl (fm_dec dtX11_rooms 97 rfl) ?_
        refine pv_getR (k := 0) (j := 44) (ci := 11) (pc := 156) 14 rfl (by decide) pfl_X11_89 (by decide) rfl (by decide) (fm_dec dtX11_rooms 98 rfl) ?_
        refine pv_iloadn (pc := 159) (n := 1) 1 rfl rfl (fm_dec dtX11_rooms 99 rfl) ?_
        refine pv_iconst (pc := 160) (v := 0) (by decide) (fm_dec dtX11_rooms 100 rfl) ?_
        refine pv_iast (k := 14) (n := 8) (pc := 161) (by decide) rfl rfl (ix_in hi9 (by omega)) (fm_dec dtX11_rooms 101 rfl) ?_
        rw [i32_cl hi9]
        exact pv_return (pc := 162) rfl (fm_dec dtX11_rooms 102 rfl) (by have e9 : (wo : Int) * 65536 - (pc : Int) + rmK (Nat.testBit lv) (wsD D) (m + 1) i l = ((((wo) : Nat) : Int) * 65536 - (((pc) : Nat) : Int) + rmK (Nat.testBit lv) (wsD D) m (i + 1) (l)) := (by rw [eK, (show Nat.testBit lv i = true from (has8 lv hlv i hi8).mp h87), rmT1 (show ¬ 3 ≤ l by rw [sc_lt] at hc96; omega) (show ¬ w ≤ l by rw [sc_lt] at hc125; omega)] <;> omega); exact hq _ (((rmFr.refl M).g).trans r72).g (rmG.back (d := 0) y72 hi8 hp4 (by decide)) (by rw [e9]; exact b72.g))
      · refine pv_aloadn (pc := 128) (n := 0) 0 rfl rfl (fm_dec dtX11_rooms 78 rfl) ?_
        refine pv_getR (k := 0) (j := 44) (ci := 11) (pc := 129) 14 rfl (by decide) pfl_X11_89 (by decide) rfl (by decide) (fm_dec dtX11_rooms 79 rfl) ?_
        refine pv_iloadn (pc := 132) (n := 1) 1 rfl rfl (fm_dec dtX11_rooms 80 rfl) ?_
        refine pv_iload (pc := 133) (i := 5) rfl (fm_dec dtX11_rooms 81 rfl) ?_
        refine pv_iast (k := 14) (n := 8) (pc := 135) (by decide) rfl rfl (ix_in hi9 (by omega)) (fm_dec dtX11_rooms 82 rfl) ?_
        rw [i32_cl hi9]
        refine pv_aloadn (pc := 136) (n := 0) 0 rfl rfl (fm_dec dtX11_rooms 83 rfl) ?_
        refine pv_iloadn (pc := 137) (n := 1) 1 rfl rfl (fm_dec dtX11_rooms 84 rfl) ?_
        refine pv_iconst (pc := 138) (v := 1) (by decide) (fm_dec dtX11_rooms 85 rfl) ?_
        refine pv_iadd (pc := 139) (fm_dec dtX11_rooms 86 rfl) ?_
        refine pv_iloadn (pc := 140) (n := 2) 2 rfl rfl (fm_dec dtX11_rooms 87 rfl) ?_
        refine pv_iloadn (pc := 141) (n := 3) 3 rfl rfl (fm_dec dtX11_rooms 88 rfl) ?_
        refine pv_iload (pc := 142) (i := 5) rfl (fm_dec dtX11_rooms 89 rfl) ?_
        refine pv_isub (pc := 144) (fm_dec dtX11_rooms 90 rfl) ?_
        refine pv_iload (pc := 145) (i := 4) rfl (fm_dec dtX11_rooms 91 rfl) ?_
        refine pv_iconst (pc := 147) (v := 3) (by decide) (fm_dec dtX11_rooms 92 rfl) ?_
        refine pv_iload (pc := 148) (i := 5) rfl (fm_dec dtX11_rooms 93 rfl) ?_
        refine pv_imul (pc := 150) (fm_dec dtX11_rooms 94 rfl) ?_
        refine pv_iadd (pc := 151) (fm_dec dtX11_rooms 95 rfl) ?_
        rw [nI_succ1, show nI l - nI w = nI (l - w) from i32_ext (by have z4 : (nI (l - w)).toInt = ((l - w : Nat) : Int) := nI_toInt (by omega); have h9 := hc125; rw [sc_lt] at h9; rw [sc_sub (by omega) (by omega)]; omega), nI_3 w (by omega), nI_ad]
        refine pv_invV4 (k := 0) (d' := (m + 1)) (pc := 152) pcv_X11_403 (by decide) rfl (Nat.le_of_ble_eq_true rfl) (by omega) (fm_dec dtX11_rooms 96 rfl) ?_
        refine ih (i + 1) (l - w) (wo + 3 * w) (pc + 2 * rmS i) (rmU (wsD D) x ((((wo) : Nat) : Int) * 65536 - (((pc) : Nat) : Int) + rmK (Nat.testBit lv) (wsD D) m (i + 1) (l))) (by omega) (by omega) (by omega) (by omega) (pc_n i hi8 pc 2 hp4) (rmU_b hb (by rw [t1]; omega)) (hY.k hD (fun k j a => (((((rmFr.refl M).g).trans r72).g)).1 k j (by omega) (by omega) (by omega))) (rmG.swap (d := 0) (d2 := 2) y72 hi8 hp4 (by decide) (by decide) (by rw [hwn, hwe]; try rfl)) b72.g (fun M152 r152 y152 b152 => ?_) 
        refine pv_then0 ?_
        refine pv_aloadn (pc := 155) (n := 0) 0 rfl rfl (fm_dec dtX11_rooms 97 rfl) ?_
        refine pv_getR (k := 0) (j := 44) (ci := 11) (pc := 156) 14 rfl (by decide) pfl_X11_89 (by decide) rfl (by decide) (fm_dec dtX11_rooms 98 rfl) ?_
        refine pv_iloadn (pc := 159) (n := 1) 1 rfl rfl (fm_dec dtX11_rooms 99 rfl) ?_
        refine pv_iconst (pc := 160) (v := 0) (by decide) (fm_dec dtX11_rooms 100 rfl) ?_
        refine pv_iast (k := 14) (n := 8) (pc := 161) (by decide) rfl rfl (ix_in hi9 (by omega)) (fm_dec dtX11_rooms 101 rfl) ?_
        rw [i32_cl hi9]
        exact pv_return (pc := 162) rfl (fm_dec dtX11_rooms 102 rfl) (by have e9 : (wo : Int) * 65536 - (pc : Int) + rmK (Nat.testBit lv) (wsD D) (m + 1) i l = max ((((wo) : Nat) : Int) * 65536 - (((pc) : Nat) : Int) + rmK (Nat.testBit lv) (wsD D) m (i + 1) (l)) ((((wo + 3 * w) : Nat) : Int) * 65536 - (((pc + 2 * rmS i) : Nat) : Int) + rmK (Nat.testBit lv) (wsD D) m (i + 1) (l - w)) := (by rw [eK, (show Nat.testBit lv i = true from (has8 lv hlv i hi8).mp h87), rmT2 (show ¬ 3 ≤ l by rw [sc_lt] at hc96; omega) (show w ≤ l by rw [sc_lt] at hc125; omega)] <;> omega); exact hq _ ((((rmFr.refl M).g).trans r72).g.trans r152).g (rmG.back (d := 2) y152 hi8 hp4 (by decide)) (by rw [e9]; exact (by rw [← rmU_up u13]; exact b152.g)))
    · refine pv_aloadn (pc := 99) (n := 0) 0 rfl rfl (fm_dec dtX11_rooms 58 rfl) ?_
      refine pv_getR (k := 0) (j := 44) (ci := 11) (pc := 100) 14 rfl (by decide) pfl_X11_89 (by decide) rfl (by decide) (fm_dec dtX11_rooms 59 rfl) ?_
      refine pv_iloadn (pc := 103) (n := 1) 1 rfl rfl (fm_dec dtX11_rooms 60 rfl) ?_
      refine pv_iconst (pc := 104) (v := 3) (by decide) (fm_dec dtX11_rooms 61 rfl) ?_
      refine pv_iast (k := 14) (n := 8) (pc := 105) (by decide) rfl rfl (ix_in hi9 (by omega)) (fm_dec dtX11_rooms 62 rfl) ?_
      rw [i32_cl hi9]
      refine pv_aloadn (pc := 106) (n := 0) 0 rfl rfl (fm_dec dtX11_rooms 63 rfl) ?_
      refine pv_iloadn (pc := 107) (n := 1) 1 rfl rfl (fm_dec dtX11_rooms 64 rfl) ?_
      refine pv_iconst (pc := 108) (v := 1) (by decide) (fm_dec dtX11_rooms 65 rfl) ?_
      refine pv_iadd (pc := 109) (fm_dec dtX11_rooms 66 rfl) ?_
      refine pv_iloadn (pc := 110) (n := 2) 2 rfl rfl (fm_dec dtX11_rooms 67 rfl) ?_
      refine pv_iloadn (pc := 111) (n := 3) 3 rfl rfl (fm_dec dtX11_rooms 68 rfl) ?_
      refine pv_iconst (pc := 112) (v := 3) (by decide) (fm_dec dtX11_rooms 69 rfl) ?_
      refine pv_isub (pc := 113) (fm_dec dtX11_rooms 70 rfl) ?_
      refine pv_iload (pc := 114) (i := 4) rfl (fm_dec dtX11_rooms 71 rfl) ?_
      refine pv_iload (pc := 116) (i := 5) rfl (fm_dec dtX11_rooms 72 rfl) ?_
      refine pv_iadd (pc := 118) (fm_dec dtX11_rooms 73 rfl) ?_
      rw [nI_succ1, show nI l - 3 = nI (l - 3) from i32_ext (by have z4 : (nI (l - 3)).toInt = ((l - 3 : Nat) : Int) := nI_toInt (by omega); have h9 := hc96; rw [sc_lt] at h9; rw [sc_sub (by omega) (by omega)]; omega), nI_ad]
      refine pv_invV4 (k := 0) (d' := (m + 1)) (pc := 119) pcv_X11_403 (by decide) rfl (Nat.le_of_ble_eq_true rfl) (by omega) (fm_dec dtX11_rooms 74 rfl) ?_
      refine ih (i + 1) (l - 3) (wo + w) (pc + 1 * rmS i) (rmU (wsD D) x ((((wo) : Nat) : Int) * 65536 - (((pc) : Nat) : Int) + rmK (Nat.testBit lv) (wsD D) m (i + 1) (l))) (by omega) (by omega) (by omega) (by omega) (pc_n i hi8 pc 1 hp4) (rmU_b hb (by rw [t1]; omega)) (hY.k hD (fun k j a => (((((rmFr.refl M).g).trans r72).g)).1 k j (by omega) (by omega) (by omega))) (rmG.swap (d := 0) (d2 := 1) y72 hi8 hp4 (by decide) (by decide) (by show (3 : Int32).toInt = ((3 : Nat) : Int); decide)) b72.g (fun M119 r119 y119 b119 => ?_) 
      refine pv_then0 ?_
      refine pv_iloadn (pc := 122) (n := 3) 3 rfl rfl (fm_dec dtX11_rooms 75 rfl) ?_
      refine pv_iload (pc := 123) (i := 5) rfl (fm_dec dtX11_rooms 76 rfl) ?_
      refine pv_icmp_lt (pc := 125) 155 (by decide) (fm_dec dtX11_rooms 77 rfl) (fun hc125 => ?_) (fun hc125 => ?_)
      · refine pv_aloadn (pc := 155) (n := 0) 0 rfl rfl (fm_dec dtX11_rooms 97 rfl) ?_
        refine pv_getR (k := 0) (j := 44) (ci := 11) (pc := 156) 14 rfl (by decide) pfl_X11_89 (by decide) rfl (by decide) (fm_dec dtX11_rooms 98 rfl) ?_
        refine pv_iloadn (pc := 159) (n := 1) 1 rfl rfl (fm_dec dtX11_rooms 99 rfl) ?_
        refine pv_iconst (pc := 160) (v := 0) (by decide) (fm_dec dtX11_rooms 100 rfl) ?_
        refine pv_iast (k := 14) (n := 8) (pc := 161) (by decide) rfl rfl (ix_in hi9 (by omega)) (fm_dec dtX11_rooms 101 rfl) ?_
        rw [i32_cl hi9]
        exact pv_return (pc := 162) rfl (fm_dec dtX11_rooms 102 rfl) (by have e9 : (wo : Int) * 65536 - (pc : Int) + rmK (Nat.testBit lv) (wsD D) (m + 1) i l = max ((((wo) : Nat) : Int) * 65536 - (((pc) : Nat) : Int) + rmK (Nat.testBit lv) (wsD D) m (i + 1) (l)) ((((wo + w) : Nat) : Int) * 65536 - (((pc + 1 * rmS i) : Nat) : Int) + rmK (Nat.testBit lv) (wsD D) m (i + 1) (l - 3)) := (by rw [eK, (show Nat.testBit lv i = true from (has8 lv hlv i hi8).mp h87), rmT3 (show 3 ≤ l by rw [sc_lt] at hc96; omega) (show ¬ w ≤ l by rw [sc_lt] at hc125; omega)] <;> omega); exact hq _ ((((rmFr.refl M).g).trans r72).g.trans r119).g (rmG.back (d := 1) y119 hi8 hp4 (by decide)) (by rw [e9]; exact (by rw [← rmU_up u12]; exact b119.g)))
      · refine pv_aloadn (pc := 128) (n := 0) 0 rfl rfl (fm_dec dtX11_rooms 78 rfl) ?_
        refine pv_getR (k := 0) (j := 44) (ci := 11) (pc := 129) 14 rfl (by decide) pfl_X11_89 (by decide) rfl (by decide) (fm_dec dtX11_rooms 79 rfl) ?_
        refine pv_iloadn (pc := 132) (n := 1) 1 rfl rfl (fm_dec dtX11_rooms 80 rfl) ?_
        refine pv_iload (pc := 133) (i := 5) rfl (fm_dec dtX11_rooms 81 rfl) ?_
        refine pv_iast (k := 14) (n := 8) (pc := 135) (by decide) rfl rfl (ix_in hi9 (by omega)) (fm_dec dtX11_rooms 82 rfl) ?_
        rw [i32_cl hi9]
        refine pv_aloadn (pc := 136) (n := 0) 0 rfl rfl (fm_dec dtX11_rooms 83 rfl) ?_
        refine pv_iloadn (pc := 137) (n := 1) 1 rfl rfl (fm_dec dtX11_rooms 84 rfl) ?_
        refine pv_iconst (pc := 138) (v := 1) (by decide) (fm_dec dtX11_rooms 85 rfl) ?_
        refine pv_iadd (pc := 139) (fm_dec dtX11_rooms 86 rfl) ?_
        refine pv_iloadn (pc := 140) (n := 2) 2 rfl rfl (fm_dec dtX11_rooms 87 rfl) ?_
        refine pv_iloadn (pc := 141) (n := 3) 3 rfl rfl (fm_dec dtX11_rooms 88 rfl) ?_
        refine pv_iload (pc := 142) (i := 5) rfl (fm_dec dtX11_rooms 89 rfl) ?_
        refine pv_isub (pc := 144) (fm_dec dtX11_rooms 90 rfl) ?_
        refine pv_iload (pc := 145) (i := 4) rfl (fm_dec dtX11_rooms 91 rfl) ?_
        refine pv_iconst (pc := 147) (v := 3) (by decide) (fm_dec dtX11_rooms 92 rfl) ?_
        refine pv_iload (pc := 148) (i := 5) rfl (fm_dec dtX11_rooms 93 rfl) ?_
        refine pv_imul (pc := 150) (fm_dec dtX11_rooms 94 rfl) ?_
        refine pv_iadd (pc := 151) (fm_dec dtX11_rooms 95 rfl) ?_
        rw [nI_succ1, show nI l - nI w = nI (l - w) from i32_ext (by have z4 : (nI (l - w)).toInt = ((l - w : Nat) : Int) := nI_toInt (by omega); have h9 := hc125; rw [sc_lt] at h9; rw [sc_sub (by omega) (by omega)]; omega), nI_3 w (by omega), nI_ad]
        refine pv_invV4 (k := 0) (d' := (m + 1)) (pc := 152) pcv_X11_403 (by decide) rfl (Nat.le_of_ble_eq_true rfl) (by omega) (fm_dec dtX11_rooms 96 rfl) ?_
        refine ih (i + 1) (l - w) (wo + 3 * w) (pc + 2 * rmS i) (rmU (wsD D) (rmU (wsD D) x ((((wo) : Nat) : Int) * 65536 - (((pc) : Nat) : Int) + rmK (Nat.testBit lv) (wsD D) m (i + 1) (l))) ((((wo + w) : Nat) : Int) * 65536 - (((pc + 1 * rmS i) : Nat) : Int) + rmK (Nat.testBit lv) (wsD D) m (i + 1) (l - 3))) (by omega) (by omega) (by omega) (by omega) (pc_n i hi8 pc 2 hp4) (rmU_b (rmU_b hb (by rw [t1]; omega)) (by rw [t2]; omega)) (hY.k hD (fun k j a => ((((((rmFr.refl M).g).trans r72).g.trans r119).g)).1 k j (by omega) (by omega) (by omega))) (rmG.swap (d := 1) (d2 := 2) y119 hi8 hp4 (by decide) (by decide) (by rw [hwn, hwe]; try rfl)) b119.g (fun M152 r152 y152 b152 => ?_) 
        refine pv_then0 ?_
        refine pv_aloadn (pc := 155) (n := 0) 0 rfl rfl (fm_dec dtX11_rooms 97 rfl) ?_
        refine pv_getR (k := 0) (j := 44) (ci := 11) (pc := 156) 14 rfl (by decide) pfl_X11_89 (by decide) rfl (by decide) (fm_dec dtX11_rooms 98 rfl) ?_
        refine pv_iloadn (pc := 159) (n := 1) 1 rfl rfl (fm_dec dtX11_rooms 99 rfl) ?_
        refine pv_iconst (pc := 160) (v := 0) (by decide) (fm_dec dtX11_rooms 100 rfl) ?_
        refine pv_iast (k := 14) (n := 8) (pc := 161) (by decide) rfl rfl (ix_in hi9 (by omega)) (fm_dec dtX11_rooms 101 rfl) ?_
        rw [i32_cl hi9]
        exact pv_return (pc := 162) rfl (fm_dec dtX11_rooms 102 rfl) (by have e9 : (wo : Int) * 65536 - (pc : Int) + rmK (Nat.testBit lv) (wsD D) (m + 1) i l = max (max ((((wo) : Nat) : Int) * 65536 - (((pc) : Nat) : Int) + rmK (Nat.testBit lv) (wsD D) m (i + 1) (l)) ((((wo + w) : Nat) : Int) * 65536 - (((pc + 1 * rmS i) : Nat) : Int) + rmK (Nat.testBit lv) (wsD D) m (i + 1) (l - 3))) ((((wo + 3 * w) : Nat) : Int) * 65536 - (((pc + 2 * rmS i) : Nat) : Int) + rmK (Nat.testBit lv) (wsD D) m (i + 1) (l - w)) := (by rw [eK, (show Nat.testBit lv i = true from (has8 lv hlv i hi8).mp h87), rmT4 (show 3 ≤ l by rw [sc_lt] at hc96; omega) (show w ≤ l by rw [sc_lt] at hc125; omega)] <;> omega); exact hq _ (((((rmFr.refl M).g).trans r72).g.trans r119).g.trans r152).g (rmG.back (d := 2) y152 hi8 hp4 (by decide)) (by rw [e9]; exact (by rw [← rmU_up u4, ← rmU_up u12]; exact b152.g)))
  · refine pv_then1 ?_
    refine pv_if_ne (pc := 90) 94 (by decide) (fm_dec dtX11_rooms 53 rfl) (fun hc90 => by exfalso; revert hc90; decide) (fun _ => ?_)
    exact pv_return (pc := 93) rfl (fm_dec dtX11_rooms 54 rfl) (by have e9 : (wo : Int) * 65536 - (pc : Int) + rmK (Nat.testBit lv) (wsD D) (m + 1) i l = ((((wo) : Nat) : Int) * 65536 - (((pc) : Nat) : Int) + rmK (Nat.testBit lv) (wsD D) m (i + 1) (l)) := (by rw [eK, show Nat.testBit lv i = false from (by cases h9 : Nat.testBit lv i with | false => rfl | true => exact absurd ((has8 lv hlv i hi8).mpr h9) h87), rm_f] <;> omega); exact hq _ (((rmFr.refl M).g).trans r72) (by have h9 := y72; rw [show pc + 0 * rmS i = pc by omega] at h9; exact h9) (by rw [e9]; exact b72))
theorem rm_P {D : dD} {lv : Nat} (hD : dOk D) (hlv : lv < 256) : ∀ m, RmP D lv m := by
  intro m
  induction m with
  | zero => exact rm_P0 hD hlv
  | succ m ih => exact rm_PS hD hlv ih
set_option maxRecDepth 20000 in
theorem mlr_loop {Q : fmR → fmM → Prop} {M0 : fmM} {D : dD} {lv r : Nat} (hD : dOk D) (hlv : lv < 256) (hr : r ≤ 200) (hY : mdw M0 D) (hq : ∀ M' : fmM, rmFr M0 M' → rmB M' (rmU (wsD D) (-1, fun k => (M0.1 15 k).toInt) (rmK (Nat.testBit lv) (wsD D) D.1 0 r)) → Q (.inl none) M') : ∀ (m k : Nat) (M : fmM), k + m = 8 → rmFr M0 M → (∀ j, j < k → M.1 14 j = 0) → M.1 0 46 = -1 ∧ (∀ k, k < 8 → (M.1 15 k).toInt = (M0.1 15 k).toInt) → pvEv Tm 12 qX11_laysRoom 7 [some (.ref 0), some (.int (nI lv)), some (.int (nI r)), some (.int (nI k))] [] M Q := by
  have d8 := hD.1
  intro m
  induction m with
  | zero =>
    intro k M hk hF hc h46
    obtain ⟨h46, hB⟩ := h46
    have hk9 : (nI k).toInt = (k : Int) := nI_toInt (by omega)
    refine pv_iloadn (pc := 7) (n := 3) 3 rfl rfl (fm_dec dtX11_laysRoom 5 rfl) ?_
    refine pv_bipush (pc := 8) (v := 8) (by decide) (fm_dec dtX11_laysRoom 6 rfl) ?_
    refine pv_icmp_ge (pc := 10) 26 (by decide) (fm_dec dtX11_laysRoom 7 rfl) (fun _ => ?_) (fun hc10 => by exfalso; apply hc10; rw [sc_le]; have z : (8 : Int32).toInt = 8 := (by decide); omega)
    refine pv_aloadn (pc := 26) (n := 0) 0 rfl rfl (fm_dec dtX11_laysRoom 15 rfl) ?_
    refine pv_iconst (pc := 27) (v := 0) (by decide) (fm_dec dtX11_laysRoom 16 rfl) ?_
    refine pv_iloadn (pc := 28) (n := 1) 1 rfl rfl (fm_dec dtX11_laysRoom 17 rfl) ?_
    refine pv_iloadn (pc := 29) (n := 2) 2 rfl rfl (fm_dec dtX11_laysRoom 18 rfl) ?_
    refine pv_iconst (pc := 30) (v := 0) (by decide) (fm_dec dtX11_laysRoom 19 rfl) ?_
    refine pv_invV4 (k := 0) (d' := (D.1 + 1)) (pc := 31) pcv_X11_403 (by decide) rfl (Nat.le_of_ble_eq_true rfl) (by omega) (fm_dec dtX11_laysRoom 20 rfl) ?_
    refine rm_P hD hlv D.1 0 r 0 0 (-1, fun k => (M0.1 15 k).toInt) (Nat.zero_add _) hr (Nat.le_refl _) (by decide) (by decide) (Int.le_refl _) (hY.k hD (fun k j a => hF.1 k j (by omega) (by omega) (by omega))) (fun j hj => by rw [hc j (by omega)]; exact (show (0 : Int32).toInt = ((gvR (wsD D) 0 j : Nat) : Int) by unfold gvR; rw [Nat.zero_div, if_pos rfl]; decide)) ⟨by rw [h46]; show (-1 : Int32).toInt = (-1 : Int); decide, hB⟩ (fun M31 r31 y31 b31 => ?_) 
    refine pv_then0 ?_
    exact pv_return (pc := 34) rfl (fm_dec dtX11_laysRoom 21 rfl) (hq M31 (hF.trans r31) (by have h9 := b31; rw [show (((0 : Nat) : Int) * 65536 - ((0 : Nat) : Int) + rmK (Nat.testBit lv) (wsD D) D.1 0 r) = rmK (Nat.testBit lv) (wsD D) D.1 0 r by omega] at h9; exact h9))
  | succ m ih =>
    intro k M hk hF hc h46
    have hk9 : (nI k).toInt = (k : Int) := nI_toInt (by omega)
    refine pv_iloadn (pc := 7) (n := 3) 3 rfl rfl (fm_dec dtX11_laysRoom 5 rfl) ?_
    refine pv_bipush (pc := 8) (v := 8) (by decide) (fm_dec dtX11_laysRoom 6 rfl) ?_
    refine pv_icmp_ge (pc := 10) 26 (by decide) (fm_dec dtX11_laysRoom 7 rfl) (fun hc10 => by exfalso; rw [sc_le] at hc10; have z : (8 : Int32).toInt = 8 := (by decide); omega) (fun _ => ?_)
    refine pv_aloadn (pc := 13) (n := 0) 0 rfl rfl (fm_dec dtX11_laysRoom 8 rfl) ?_
    refine pv_getR (k := 0) (j := 44) (ci := 11) (pc := 14) 14 rfl (by decide) pfl_X11_89 (by decide) rfl (by decide) (fm_dec dtX11_laysRoom 9 rfl) ?_
    refine pv_iloadn (pc := 17) (n := 3) 3 rfl rfl (fm_dec dtX11_laysRoom 10 rfl) ?_
    refine pv_iconst (pc := 18) (v := 0) (by decide) (fm_dec dtX11_laysRoom 11 rfl) ?_
    refine pv_iast (k := 14) (n := 8) (pc := 19) (by decide) rfl rfl (ix_in hk9 (by omega)) (fm_dec dtX11_laysRoom 12 rfl) ?_
    rw [i32_cl hk9]
    refine pv_iincc (pc := 20) 3 1 (by decide) rfl (by decide) rfl (fm_dec dtX11_laysRoom 13 rfl) ?_
    dsimp only [List.set_cons_zero, List.set_cons_succ]
    refine pv_goto (pc := 23) 7 (by decide) (fm_dec dtX11_laysRoom 14 rfl) ?_
    rw [nI_succ1]
    refine ih (k + 1) _ (by omega) hF.g (fun j hj => ?_) (by rw [fmI_k _ _ (by decide)]; exact h46)
    by_cases e : j = k
    · rw [e, fmI_s]
    · rw [fmI_j _ _ e]
      exact hc j (by omega)
set_option maxRecDepth 20000 in
theorem c_mlr {M : fmM} {Q : fmR → fmM → Prop} {D : dD} {lv r : Nat} (hD : dOk D) (hlv : lv < 256) (hr : r ≤ 200) (hY : mdw M D) (hq : ∀ M' : fmM, rmFr M M' → rmB M' (rmU (wsD D) (-1, fun k => (M.1 15 k).toInt) (rmK (Nat.testBit lv) (wsD D) D.1 0 r)) → Q (.inl none) M') : pvGood Tm 12 qX11_laysRoom [.ref 0, .int (nI lv), .int (nI r)] M Q := by
  refine pvGood_of (Nat.le_of_ble_eq_true rfl) ?_
  show pvEv Tm 12 qX11_laysRoom 0 [some (.ref 0), some (.int (nI lv)), some (.int (nI r)), none] [] M Q
  refine pv_aloadn (pc := 0) (n := 0) 0 rfl rfl (fm_dec dtX11_laysRoom 0 rfl) ?_
  refine pv_iconst (pc := 1) (v := (-1)) (by decide) (fm_dec dtX11_laysRoom 1 rfl) ?_
  refine pv_putI (k := 0) (j := 46) (ci := 11) (pc := 2) pfl_X11_400 (by decide) rfl (by decide) (fm_dec dtX11_laysRoom 2 rfl) ?_
  refine pv_iconst (pc := 5) (v := 0) (by decide) (fm_dec dtX11_laysRoom 3 rfl) ?_
  refine pv_istoren (pc := 6) (n := 3) 3 rfl (by decide) rfl (fm_dec dtX11_laysRoom 4 rfl) ?_
  dsimp only [List.set_cons_zero, List.set_cons_succ]
  exact mlr_loop (M0 := M) hD hlv hr hY hq 8 0 _ rfl ⟨fun k j a b c => congrFun (fmI_k _ _ a) j, fun j a => fmI_j _ _ a, rfl⟩ (fun j hj => absurd hj (Nat.not_lt_zero _)) ⟨(by rw [fmI_s]), fun k hk => by rw [fmI_k _ _ (by decide)]⟩
set_option maxRecDepth 20000 in
theorem c_xlines {M : fmM} {Q : fmR → fmM → Prop} {D : dD} {cs : tC} {S : aS} {y p x : Int32} (h : xAq M D cs S) (hn1 : ¬ inL D x → Q (.inr fmNSE) (fmI M 0 15 (M.1 0 15 + 1))) (hn2 : inL D x → ¬ (inW y 0 (1 <<< (nI D.1 &&& 31) - 1) ∧ inW p 0 200) → Q (.inr fmIAE) (fmI M 0 16 (M.1 0 16 + 1))) (hq : inL D x → inW y 0 (1 <<< (nI D.1 &&& 31) - 1) ∧ inW p 0 200 → ∀ (r : Int32) (M' : fmM), r.toInt = ((gvR (wsD D) (cdK (rmK (Nat.testBit y.toInt.toNat) (wsD D) D.1 0 p.toInt.toNat)) x.toInt.toNat : Nat) : Int) → Q (.inl (some (.int r))) M') : pvGood Tx 4 qX10_lines [.ref 0, .int y, .int p, .int x] M Q := by
  refine pvGood_of (Nat.le_of_ble_eq_true rfl) ?_
  show pvEv Tx 4 qX10_lines 0 [some (.ref 0), some (.int y), some (.int p), some (.int x), none, none, none] [] M Q
  have hxq := h
  obtain ⟨hD, hX, hL, hs, ho⟩ := h
  have d8 := hD.1
  have hl9 : (M.1 3 9).toInt = (D.1 : Int) := hX.1.1
  refine pv_aloadn (pc := 0) (n := 0) 0 rfl rfl (fm_dec dtX10_lines 0 rfl) ?_
  refine pv_iloadn (pc := 1) (n := 3) 3 rfl rfl (fm_dec dtX10_lines 1 rfl) ?_
  refine pv_invV1 (k := 0) (d' := 0) (pc := 2) pcv_X10_197 (by decide) rfl (Nat.le_of_ble_eq_true rfl) (by decide) (fm_dec dtX10_lines 2 rfl) ?_
  refine c_needL (fun h2a h2b => ?_) (fun h2 => ?_)
  · refine pv_then0 ?_
    have hn : inL D x := ⟨h2a, by omega⟩
    obtain ⟨i, hi, rfl, ei⟩ := hn.n hD
    rw [ei] at hq
    have hi9 : (nI i).toInt = (i : Int) := nI_toInt (by omega)
    have hi8 : i < 8 := (by omega)
    refine pv_aloadn (pc := 5) (n := 0) 0 rfl rfl (fm_dec dtX10_lines 3 rfl) ?_
    refine pv_iloadn (pc := 6) (n := 1) 1 rfl rfl (fm_dec dtX10_lines 4 rfl) ?_
    refine pv_invV1 (k := 0) (d' := 1) (pc := 7) pcv_X10_319 (by decide) rfl (Nat.le_of_ble_eq_true rfl) (by decide) (fm_dec dtX10_lines 5 rfl) ?_
    refine c_needB hD hX (fun h7 => ?_) (fun h7 => ?_)
    · refine pv_then0 ?_
      refine pv_aloadn (pc := 10) (n := 0) 0 rfl rfl (fm_dec dtX10_lines 6 rfl) ?_
      refine pv_iloadn (pc := 11) (n := 2) 2 rfl rfl (fm_dec dtX10_lines 7 rfl) ?_
      refine pv_iconst (pc := 12) (v := 0) (by decide) (fm_dec dtX10_lines 8 rfl) ?_
      refine pv_sipush (pc := 13) (v := 200) (by decide) (fm_dec dtX10_lines 9 rfl) ?_
      refine pv_invV3 (k := 0) (d' := 0) (pc := 16) pcv_X10_169 (by decide) rfl (Nat.le_of_ble_eq_true rfl) (by decide) (fm_dec dtX10_lines 10 rfl) ?_
      refine c_needW (fun h16a h16b => ?_) (fun h16 => ?_)
      · refine pv_then0 ?_
        have hP : inW y 0 (1 <<< (nI D.1 &&& 31) - 1) ∧ inW p 0 200 := ⟨h7, ⟨h16a, h16b⟩⟩
        have h2b := h7.2
        have h2c := h7.1
        refine pv_aloadn (pc := 19) (n := 0) 0 rfl rfl (fm_dec dtX10_lines 11 rfl) ?_
        refine pv_iloadn (pc := 20) (n := 1) 1 rfl rfl (fm_dec dtX10_lines 12 rfl) ?_
        refine pv_iloadn (pc := 21) (n := 2) 2 rfl rfl (fm_dec dtX10_lines 13 rfl) ?_
        obtain ⟨lv, hlv, exl⟩ : ∃ lv : Nat, lv < 256 ∧ y = nI lv := (by have z0 : (0 : Int32).toInt = 0 := (by decide); have h9 := bt_8 D.1 d8; have h8 : 2 ^ D.1 ≤ 2 ^ 8 := Nat.pow_le_pow_right (by decide) d8; exact ⟨y.toInt.toNat, by omega, nI_is (by omega) (by omega)⟩)
        have elv : y.toInt.toNat = lv := (by rw [exl, nI_toInt (by omega)]; omega)
        obtain ⟨r, hr, exr⟩ : ∃ r : Nat, r ≤ 200 ∧ p = nI r := (by have z0 : (0 : Int32).toInt = 0 := (by decide); have z2 : (200 : Int32).toInt = 200 := (by decide); exact ⟨p.toInt.toNat, by omega, nI_is (by omega) (by omega)⟩)
        have er : p.toInt.toNat = r := (by rw [exr, nI_toInt (by omega)]; omega)
        rw [elv, er] at hq
        rw [exl, exr]
        obtain ⟨wt, cd, eK, gK, bK⟩ := rmK_form (hs := Nat.testBit lv) d8 (wsD_b hD) D.1 0 r (by omega)
        have z4 : (4 : Nat) ^ (8 - 0) = 65536 := (by decide)
        rw [z4] at gK
        have tK := wtK_of (wt := wt) (c := cd) gK
        have cK := cdK_of (wt := wt) (c := cd) gK
        rw [← eK] at tK cK
        refine pv_invV2 (k := 0) (d' := 3) (pc := 22) pcv_X10_322 (by decide) rfl (Nat.le_of_ble_eq_true rfl) (by decide) (fm_dec dtX10_lines 14 rfl) ?_
        refine c_xfr hD hX hlv hr (fun x22 M22 e22 k22 l22 => ?_)
        refine pv_then1 ?_
        refine pv_istore (pc := 25) (i := 4) (by decide) rfl (fm_dec dtX10_lines 15 rfl) ?_
        dsimp only [List.set_cons_zero, List.set_cons_succ]
        refine pv_iload (pc := 27) (i := 4) rfl (fm_dec dtX10_lines 16 rfl) ?_
        refine pv_iS1 (d' := 0) (pc := 29) pcs_X10_325 (Nat.le_of_ble_eq_true rfl) (by decide) (fm_dec dtX10_lines 17 rfl) ?_
        refine c_rwo ?_
        refine pv_then1 ?_
        refine pv_bipush (pc := 32) (v := 16) (by decide) (fm_dec dtX10_lines 18 rfl) ?_
        refine pv_ishl (pc := 34) (fm_dec dtX10_lines 19 rfl) ?_
        refine pv_iload (pc := 35) (i := 4) rfl (fm_dec dtX10_lines 20 rfl) ?_
        refine pv_isub (pc := 37) (fm_dec dtX10_lines 21 rfl) ?_
        have z65 : (65535 : Int32).toInt = 65535 := (by decide)
        have eW : (x22 + 65535) >>> (16 &&& 31) = nI wt := nI_is (by rw [sar16, sc_add (by omega) (by omega), z65, e22]; exact tK) (by omega)
        rw [eW]
        have eA : (nI wt <<< (16 &&& 31) - x22).toInt = (cd : Int) := (by have h9 := shl16 wt (by omega); rw [sc_sub (by omega) (by omega), h9, e22, eK]; omega)
        refine pv_istore (pc := 38) (i := 5) (by decide) rfl (fm_dec dtX10_lines 22 rfl) ?_
        dsimp only [List.set_cons_zero, List.set_cons_succ]
        refine pv_iload (pc := 40) (i := 5) rfl (fm_dec dtX10_lines 23 rfl) ?_
        refine pv_iloadn (pc := 42) (n := 3) 3 rfl rfl (fm_dec dtX10_lines 24 rfl) ?_
        refine pv_iS1 (d' := 0) (pc := 43) pcs_X10_328 (Nat.le_of_ble_eq_true rfl) (by decide) (fm_dec dtX10_lines 25 rfl) ?_
        refine c_rsh ?_
        refine pv_then1 ?_
        refine pv_ishr (pc := 46) (fm_dec dtX10_lines 26 rfl) ?_
        refine pv_iconst (pc := 47) (v := 3) (by decide) (fm_dec dtX10_lines 27 rfl) ?_
        refine pv_iand (pc := 48) (fm_dec dtX10_lines 28 rfl) ?_
        rw [sarS eA gK hi8]
        have hq4 : (nI (cd / rmS i % 4)).toInt = ((cd / rmS i % 4 : Nat) : Int) := nI_toInt (by omega)
        refine pv_istore (pc := 49) (i := 6) (by decide) rfl (fm_dec dtX10_lines 29 rfl) ?_
        dsimp only [List.set_cons_zero, List.set_cons_succ]
        refine pv_iload (pc := 51) (i := 6) rfl (fm_dec dtX10_lines 30 rfl) ?_
        refine pv_if_ne (pc := 53) 58 (by decide) (fm_dec dtX10_lines 31 rfl) (fun hc53 => ?_) (fun hc53 => ?_)
        · refine pv_iload (pc := 58) (i := 6) rfl (fm_dec dtX10_lines 34 rfl) ?_
          refine pv_iconst (pc := 60) (v := 1) (by decide) (fm_dec dtX10_lines 35 rfl) ?_
          refine pv_icmp_ne (pc := 61) 68 (by decide) (fm_dec dtX10_lines 36 rfl) (fun hc61 => ?_) (fun hc61 => ?_)
          · refine pv_aloadn (pc := 68) (n := 0) 0 rfl rfl (fm_dec dtX10_lines 39 rfl) ?_
            refine pv_getR (k := 0) (j := 1) (ci := 10) (pc := 69) 3 rfl (by decide) pfl_X10_19 (by decide) rfl (by decide) (fm_dec dtX10_lines 40 rfl) ?_
            refine pv_getR (k := 3) (j := 2) (ci := 8) (pc := 72) 6 rfl (by decide) pfl_X10_207 (by decide) rfl (by decide) (fm_dec dtX10_lines 41 rfl) ?_
            refine pv_iloadn (pc := 75) (n := 3) 3 rfl rfl (fm_dec dtX10_lines 42 rfl) ?_
            refine pv_iald (k := 6) (n := 8) (pc := 76) (by decide) rfl rfl (ix_in hi9 (by omega)) (fm_dec dtX10_lines 43 rfl) ?_
            rw [i32_cl hi9]
            exact pv_ireturn (pc := 77) rfl (fm_dec dtX10_lines 44 rfl) (hq hn hP _ _ (by rw [cK]; unfold gvR; rw [if_neg (fun h9 => hc53 (by rw [h9]; rfl)), if_neg (fun h9 => hc61 (by rw [h9]; rfl))]; have g := hX.2.1 i hi 2 (by decide); rw [k22 _ _ (by decide)]; have h9 := (hD.2.2.1 i hi).2.2.1; unfold wsD; exact g.trans (by omega)))
          · refine pv_iconst (pc := 64) (v := 3) (by decide) (fm_dec dtX10_lines 37 rfl) ?_
            refine pv_goto (pc := 65) 77 (by decide) (fm_dec dtX10_lines 38 rfl) ?_
            exact pv_ireturn (pc := 77) rfl (fm_dec dtX10_lines 44 rfl) (hq hn hP _ _ (by rw [cK]; unfold gvR; rw [if_neg (fun h9 => hc53 (by rw [h9]; rfl)), if_pos (by have h9 := congrArg Int32.toInt hc61; rw [hq4] at h9; have z1 : (1 : Int32).toInt = 1 := (by decide); omega)]; decide))
        · refine pv_iconst (pc := 56) (v := 0) (by decide) (fm_dec dtX10_lines 32 rfl) ?_
          exact pv_ireturn (pc := 57) rfl (fm_dec dtX10_lines 33 rfl) (hq hn hP _ _ (by rw [cK]; unfold gvR; rw [if_pos (by have h9 := congrArg Int32.toInt hc53; rw [hq4] at h9; have z0 : (0 : Int32).toInt = 0 := (by decide); omega)]; decide))
      · refine pv_thenX ?_
        first | exact hn2 hn (fun h8 => h16 ⟨h8.2.1, h8.2.2⟩) | exact hn2 hn (fun h8 => h7 h8.1) | exact hn1 (fun h8 => h2 ⟨h8.1, by have := h8.2; omega⟩)
    · refine pv_thenX ?_
      first | exact hn2 hn (fun h8 => h16 ⟨h8.2.1, h8.2.2⟩) | exact hn2 hn (fun h8 => h7 h8.1) | exact hn1 (fun h8 => h2 ⟨h8.1, by have := h8.2; omega⟩)
  · refine pv_thenX ?_
    first | exact hn2 hn (fun h8 => h16 ⟨h8.2.1, h8.2.2⟩) | exact hn2 hn (fun h8 => h7 h8.1) | exact hn1 (fun h8 => h2 ⟨h8.1, by have := h8.2; omega⟩)
set_option maxRecDepth 20000 in
theorem c_mlines {M : fmM} {Q : fmR → fmM → Prop} {D : dD} {cs : tC} {S : aS} {y p x : Int32} (h : mAq M D cs S) (hn1 : ¬ inL D x → ∀ (z : Int32) (M' : fmM), M'.1 0 0 = 1 → Q (.inl (some (.int z))) M') (hn2 : inL D x → ¬ (inW y 0 (1 <<< (nI D.1 &&& 31) - 1) ∧ inW p 0 200) → ∀ (z : Int32) (M' : fmM), M'.1 0 0 = 2 → Q (.inl (some (.int z))) M') (hq : inL D x → inW y 0 (1 <<< (nI D.1 &&& 31) - 1) ∧ inW p 0 200 → ∀ (r : Int32) (M' : fmM), M'.1 0 0 = 0 → r.toInt = ((gvR (wsD D) (cdK (rmK (Nat.testBit y.toInt.toNat) (wsD D) D.1 0 p.toInt.toNat)) x.toInt.toNat : Nat) : Int) → Q (.inl (some (.int r))) M') : pvGood Tm 13 qX11_lines [.ref 0, .int y, .int p, .int x] M Q := by
  refine pvGood_of (Nat.le_of_ble_eq_true rfl) ?_
  show pvEv Tm 13 qX11_lines 0 [some (.ref 0), some (.int y), some (.int p), some (.int x)] [] M Q
  have hmq := h.z (x := 0)
  obtain ⟨hD, hY, hM, hd, ht, ho⟩ := hmq
  have d8 := hD.1
  have h4 : (M.1 4 0).toInt = (D.1 : Int) := hY.1
  have hl := hD.1
  refine pv_aloadn (pc := 0) (n := 0) 0 rfl rfl (fm_dec dtX11_lines 0 rfl) ?_
  refine pv_iconst (pc := 1) (v := 0) (by decide) (fm_dec dtX11_lines 1 rfl) ?_
  refine pv_putI (k := 0) (j := 0) (ci := 11) (pc := 2) pfl_X11_101 (by decide) rfl (by decide) (fm_dec dtX11_lines 2 rfl) ?_
  refine pv_aloadn (pc := 5) (n := 0) 0 rfl rfl (fm_dec dtX11_lines 3 rfl) ?_
  refine pv_aloadn (pc := 6) (n := 0) 0 rfl rfl (fm_dec dtX11_lines 4 rfl) ?_
  refine pv_iloadn (pc := 7) (n := 3) 3 rfl rfl (fm_dec dtX11_lines 5 rfl) ?_
  refine pv_invV1 (k := 0) (d' := 1) (pc := 8) pcv_X11_331 (by decide) rfl (Nat.le_of_ble_eq_true rfl) (by decide) (fm_dec dtX11_lines 6 rfl) ?_
  refine c_isLife (M := fmI M 0 0 0) h4 hl (fun k hk hkl => ?_) (fun hno => ?_)
  · refine pv_then1 ?_
    refine pv_if_ne (pc := 11) 18 (by decide) (fm_dec dtX11_lines 7 rfl) (fun _ => ?_) (fun hc11 => by exfalso; revert hc11; decide)
    refine pv_iconst (pc := 18) (v := 0) (by decide) (fm_dec dtX11_lines 10 rfl) ?_
    refine pv_iconst (pc := 19) (v := 1) (by decide) (fm_dec dtX11_lines 11 rfl) ?_
    refine pv_iconst (pc := 20) (v := 0) (by decide) (fm_dec dtX11_lines 12 rfl) ?_
    refine pv_invV3 (k := 0) (d' := 0) (pc := 21) pcv_X11_177 (by decide) rfl (Nat.le_of_ble_eq_true rfl) (by decide) (fm_dec dtX11_lines 13 rfl) ?_
    refine c_badF0 rfl ?_
    refine pv_then1 ?_
    refine pv_if_ne (pc := 24) 60 (by decide) (fm_dec dtX11_lines 14 rfl) (fun hc24 => by exfalso; revert hc24; decide) (fun _ => ?_)
    have hn : inL D x := ⟨by omega, by omega⟩
    obtain ⟨i, hi, rfl, ei⟩ := hn.n hD
    rw [ei] at hq
    have hi9 : (nI i).toInt = (i : Int) := nI_toInt (by omega)
    have hi8 : i < 8 := (by omega)
    refine pv_aloadn (pc := 27) (n := 0) 0 rfl rfl (fm_dec dtX11_lines 15 rfl) ?_
    refine pv_aloadn (pc := 28) (n := 0) 0 rfl rfl (fm_dec dtX11_lines 16 rfl) ?_
    refine pv_iloadn (pc := 29) (n := 1) 1 rfl rfl (fm_dec dtX11_lines 17 rfl) ?_
    refine pv_invV1 (k := 0) (d' := 1) (pc := 30) pcv_X11_407 (by decide) rfl (Nat.le_of_ble_eq_true rfl) (by decide) (fm_dec dtX11_lines 18 rfl) ?_
    refine c_areL hD hY (fun h30 => ?_) (fun h30 => ?_)
    · refine pv_then1 ?_
      refine pv_if_eq (pc := 33) 47 (by decide) (fm_dec dtX11_lines 19 rfl) (fun hc33 => by exfalso; revert hc33; decide) (fun _ => ?_)
      refine pv_iloadn (pc := 36) (n := 2) 2 rfl rfl (fm_dec dtX11_lines 20 rfl) ?_
      refine pv_iconst (pc := 37) (v := 0) (by decide) (fm_dec dtX11_lines 21 rfl) ?_
      refine pv_sipush (pc := 38) (v := 200) (by decide) (fm_dec dtX11_lines 22 rfl) ?_
      refine pv_iS3 (d' := 0) (pc := 41) pcs_X11_135 (Nat.le_of_ble_eq_true rfl) (by decide) (fm_dec dtX11_lines 23 rfl) ?_
      refine c_in (fun h41a h41b => ?_) (fun h41 => ?_)
      · refine pv_then1 ?_
        refine pv_if_ne (pc := 44) 51 (by decide) (fm_dec dtX11_lines 24 rfl) (fun _ => ?_) (fun hc44 => by exfalso; revert hc44; decide)
        refine pv_iconst (pc := 51) (v := 0) (by decide) (fm_dec dtX11_lines 27 rfl) ?_
        refine pv_iconst (pc := 52) (v := 2) (by decide) (fm_dec dtX11_lines 28 rfl) ?_
        refine pv_iconst (pc := 53) (v := 1) (by decide) (fm_dec dtX11_lines 29 rfl) ?_
        refine pv_invV3 (k := 0) (d' := 0) (pc := 54) pcv_X11_177 (by decide) rfl (Nat.le_of_ble_eq_true rfl) (by decide) (fm_dec dtX11_lines 30 rfl) ?_
        refine c_badF1 rfl ?_
        refine pv_then1 ?_
        refine pv_if_eq (pc := 57) 62 (by decide) (fm_dec dtX11_lines 31 rfl) (fun _ => ?_) (fun hc57 => by exfalso; revert hc57; decide)
        have hP : inW y 0 (1 <<< (nI D.1 &&& 31) - 1) ∧ inW p 0 200 := ⟨h30, ⟨h41a, h41b⟩⟩
        have h2b := h30.2
        have h2c := h30.1
        refine pv_aloadn (pc := 62) (n := 0) 0 rfl rfl (fm_dec dtX11_lines 34 rfl) ?_
        refine pv_iloadn (pc := 63) (n := 1) 1 rfl rfl (fm_dec dtX11_lines 35 rfl) ?_
        refine pv_iloadn (pc := 64) (n := 2) 2 rfl rfl (fm_dec dtX11_lines 36 rfl) ?_
        obtain ⟨lv, hlv, exl⟩ : ∃ lv : Nat, lv < 256 ∧ y = nI lv := (by have z0 : (0 : Int32).toInt = 0 := (by decide); have h9 := bt_8 D.1 d8; have h8 : 2 ^ D.1 ≤ 2 ^ 8 := Nat.pow_le_pow_right (by decide) d8; exact ⟨y.toInt.toNat, by omega, nI_is (by omega) (by omega)⟩)
        have elv : y.toInt.toNat = lv := (by rw [exl, nI_toInt (by omega)]; omega)
        obtain ⟨r, hr, exr⟩ : ∃ r : Nat, r ≤ 200 ∧ p = nI r := (by have z0 : (0 : Int32).toInt = 0 := (by decide); have z2 : (200 : Int32).toInt = 200 := (by decide); exact ⟨p.toInt.toNat, by omega, nI_is (by omega) (by omega)⟩)
        have er : p.toInt.toNat = r := (by rw [exr, nI_toInt (by omega)]; omega)
        rw [elv, er] at hq
        rw [exl, exr]
        obtain ⟨wt, cd, eK, gK, bK⟩ := rmK_form (hs := Nat.testBit lv) d8 (wsD_b hD) D.1 0 r (by omega)
        have z4 : (4 : Nat) ^ (8 - 0) = 65536 := (by decide)
        rw [z4] at gK
        have tK := wtK_of (wt := wt) (c := cd) gK
        have cK := cdK_of (wt := wt) (c := cd) gK
        rw [← eK] at tK cK
        refine pv_invV2 (k := 0) (d' := 12) (pc := 65) pcv_X11_410 (by decide) rfl (Nat.le_of_ble_eq_true rfl) (by decide) (fm_dec dtX11_lines 37 rfl) ?_
        refine c_mlr hD hlv hr hY (fun M65 r65 b65 => ?_)
        refine pv_then0 ?_
        refine pv_aloadn (pc := 68) (n := 0) 0 rfl rfl (fm_dec dtX11_lines 38 rfl) ?_
        refine pv_getR (k := 0) (j := 45) (ci := 11) (pc := 69) 15 rfl (by decide) pfl_X11_92 (by decide) rfl (by decide) (fm_dec dtX11_lines 39 rfl) ?_
        refine pv_iloadn (pc := 72) (n := 3) 3 rfl rfl (fm_dec dtX11_lines 40 rfl) ?_
        refine pv_iald (k := 15) (n := 8) (pc := 73) (by decide) rfl rfl (ix_in hi9 (by omega)) (fm_dec dtX11_lines 41 rfl) ?_
        rw [i32_cl hi9]
        exact pv_ireturn (pc := 74) rfl (fm_dec dtX11_lines 42 rfl) (hq hn hP _ _ ((r65.2.1 0 (by decide)).trans rfl) (by have h9 := b65.2 i hi8; unfold rmU at h9; rw [if_pos (by rw [tK]; show (-1 : Int) < _; omega)] at h9; exact h9))
      · refine pv_then1 ?_
        refine pv_if_ne (pc := 44) 51 (by decide) (fm_dec dtX11_lines 24 rfl) (fun hc44 => by exfalso; revert hc44; decide) (fun _ => ?_)
        refine pv_iconst (pc := 47) (v := 1) (by decide) (fm_dec dtX11_lines 25 rfl) ?_
        refine pv_goto (pc := 48) 52 (by decide) (fm_dec dtX11_lines 26 rfl) ?_
        refine pv_iconst (pc := 52) (v := 2) (by decide) (fm_dec dtX11_lines 28 rfl) ?_
        refine pv_iconst (pc := 53) (v := 1) (by decide) (fm_dec dtX11_lines 29 rfl) ?_
        refine pv_invV3 (k := 0) (d' := 0) (pc := 54) pcv_X11_177 (by decide) rfl (Nat.le_of_ble_eq_true rfl) (by decide) (fm_dec dtX11_lines 30 rfl) ?_
        refine c_badT1 rfl (by decide) ?_
        refine pv_then1 ?_
        refine pv_if_eq (pc := 57) 62 (by decide) (fm_dec dtX11_lines 31 rfl) (fun hc57 => by exfalso; revert hc57; decide) (fun _ => ?_)
        refine pv_iconst (pc := 60) (v := 0) (by decide) (fm_dec dtX11_lines 32 rfl) ?_
        exact pv_ireturn (pc := 61) rfl (fm_dec dtX11_lines 33 rfl) (hn2 hn (fun h9 => h41 ⟨h9.2.1, h9.2.2⟩) _ _ rfl)
    · refine pv_then1 ?_
      refine pv_if_eq (pc := 33) 47 (by decide) (fm_dec dtX11_lines 19 rfl) (fun _ => ?_) (fun hc33 => by exfalso; revert hc33; decide)
      refine pv_iconst (pc := 47) (v := 1) (by decide) (fm_dec dtX11_lines 25 rfl) ?_
      refine pv_goto (pc := 48) 52 (by decide) (fm_dec dtX11_lines 26 rfl) ?_
      refine pv_iconst (pc := 52) (v := 2) (by decide) (fm_dec dtX11_lines 28 rfl) ?_
      refine pv_iconst (pc := 53) (v := 1) (by decide) (fm_dec dtX11_lines 29 rfl) ?_
      refine pv_invV3 (k := 0) (d' := 0) (pc := 54) pcv_X11_177 (by decide) rfl (Nat.le_of_ble_eq_true rfl) (by decide) (fm_dec dtX11_lines 30 rfl) ?_
      refine c_badT1 rfl (by decide) ?_
      refine pv_then1 ?_
      refine pv_if_eq (pc := 57) 62 (by decide) (fm_dec dtX11_lines 31 rfl) (fun hc57 => by exfalso; revert hc57; decide) (fun _ => ?_)
      refine pv_iconst (pc := 60) (v := 0) (by decide) (fm_dec dtX11_lines 32 rfl) ?_
      exact pv_ireturn (pc := 61) rfl (fm_dec dtX11_lines 33 rfl) (hn2 hn (fun h9 => h30 h9.1) _ _ rfl)
  · refine pv_then1 ?_
    refine pv_if_ne (pc := 11) 18 (by decide) (fm_dec dtX11_lines 7 rfl) (fun hc11 => by exfalso; revert hc11; decide) (fun _ => ?_)
    refine pv_iconst (pc := 14) (v := 1) (by decide) (fm_dec dtX11_lines 8 rfl) ?_
    refine pv_goto (pc := 15) 19 (by decide) (fm_dec dtX11_lines 9 rfl) ?_
    refine pv_iconst (pc := 19) (v := 1) (by decide) (fm_dec dtX11_lines 11 rfl) ?_
    refine pv_iconst (pc := 20) (v := 0) (by decide) (fm_dec dtX11_lines 12 rfl) ?_
    refine pv_invV3 (k := 0) (d' := 0) (pc := 21) pcv_X11_177 (by decide) rfl (Nat.le_of_ble_eq_true rfl) (by decide) (fm_dec dtX11_lines 13 rfl) ?_
    refine c_badT0 rfl (by decide) ?_
    refine pv_then1 ?_
    refine pv_if_ne (pc := 24) 60 (by decide) (fm_dec dtX11_lines 14 rfl) (fun _ => ?_) (fun hc24 => by exfalso; revert hc24; decide)
    refine pv_iconst (pc := 60) (v := 0) (by decide) (fm_dec dtX11_lines 32 rfl) ?_
    exact pv_ireturn (pc := 61) rfl (fm_dec dtX11_lines 33 rfl) (hn1 hno _ _ rfl)
theorem xe_lines {M : fmM} {D : dD} {cs : tC} {S : aS} {y p x : Int32} (h : xAq M D cs S) : pvGood Tx 250 qX10_lines [.ref 0, .int y, .int p, .int x] M (fun r _ => (inL D x ∧ (inW y 0 (1 <<< (nI D.1 &&& 31) - 1) ∧ inW p 0 200) ∧ r = .inl (some (.int (iZ (((gvR (wsD D) (cdK (rmK (Nat.testBit y.toInt.toNat) (wsD D) D.1 0 p.toInt.toNat)) x.toInt.toNat : Nat) : Int)))))) ∨ (¬ inL D x ∧ r = .inr fmNSE) ∨ (inL D x ∧ ¬ (inW y 0 (1 <<< (nI D.1 &&& 31) - 1) ∧ inW p 0 200) ∧ r = .inr fmIAE)) := (c_xlines h (fun h => Or.inr (Or.inl ⟨h, rfl⟩)) (fun h h' => Or.inr (Or.inr ⟨h, h', rfl⟩)) (fun h h' r M' e => Or.inl ⟨h, h', by rw [iZ_is e]⟩)).up (by decide)
theorem me_lines {M : fmM} {D : dD} {cs : tC} {S : aS} {y p x : Int32} (h : mAq M D cs S) : pvGood Tm 250 qX11_lines [.ref 0, .int y, .int p, .int x] M (fun r M' => (inL D x ∧ (inW y 0 (1 <<< (nI D.1 &&& 31) - 1) ∧ inW p 0 200) ∧ r = .inl (some (.int (iZ (((gvR (wsD D) (cdK (rmK (Nat.testBit y.toInt.toNat) (wsD D) D.1 0 p.toInt.toNat)) x.toInt.toNat : Nat) : Int))))) ∧ M'.1 0 0 = 0) ∨ (¬ inL D x ∧ M'.1 0 0 = 1) ∨ (inL D x ∧ ¬ (inW y 0 (1 <<< (nI D.1 &&& 31) - 1) ∧ inW p 0 200) ∧ M'.1 0 0 = 2)) := (c_mlines h (fun h z M' e => Or.inr (Or.inl ⟨h, e⟩)) (fun h h' z M' e => Or.inr (Or.inr ⟨h, h', e⟩)) (fun h h' r M' z e => Or.inl ⟨h, h', by rw [iZ_is e], z⟩)).up (by decide)
