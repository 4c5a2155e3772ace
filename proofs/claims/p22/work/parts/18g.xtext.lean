-- THE CLASS READS TEXTS
/-- a signed byte and what it says -/
def bt (x : Int32) (c : Int) : Prop := x.toInt = if c < 128 then c else c - 256
theorem and255 (x : Int32) : (x &&& 255).toInt = x.toInt % 256 := by
  have e : (x &&& 255).toBitVec.toNat = x.toBitVec.toNat % 256 := by
    rw [Int32.toBitVec_and, BitVec.toNat_and]
    exact Nat.and_two_pow_sub_one_eq_mod _ 8
  have e3 : (x &&& 255).toInt = ((x &&& 255).toBitVec.toNat : Int) := by
    show (x &&& 255).toBitVec.toInt = _
    rw [BitVec.toInt_eq_toNat_of_lt (by omega)]
  have e4 : x.toInt = if 2 * x.toBitVec.toNat < 2 ^ 32 then (x.toBitVec.toNat : Int) else (x.toBitVec.toNat : Int) - ((2 ^ 32 : Nat) : Int) := by
    show x.toBitVec.toInt = _
    rw [BitVec.toInt_eq_toNat_cond]
  rw [e3, e, e4]
  split <;> omega
theorem bt.and {x : Int32} {c : Int} (h : bt x c) (h0 : 0 ≤ c) (h1 : c ≤ 255) : (x &&& 255).toInt = c := by
  rw [and255, h]
  split <;> omega
theorem bt.eq {x : Int32} {c v : Int} (h : bt x c) (h1 : c ≤ 255) (h2 : 0 ≤ v) (h3 : v < 128) : x.toInt = v ↔ c = v := by
  rw [h]
  split <;> omega
theorem bt.D {x : Int32} {c : Int} (h : bt x c) (h1 : c ≤ 255) : tD c = tD x.toInt := by
  rw [h]
  unfold tD
  split
  · rfl
  · have a1 : decide (c ≤ 57) = false := decide_eq_false (by omega)
    have a2 : decide (48 ≤ c - 256) = false := decide_eq_false (by omega)
    rw [a1, a2, Bool.and_false, Bool.false_and]
theorem bt.W {x : Int32} {c : Int} (h : bt x c) (h1 : c ≤ 255) : tW c = tW x.toInt := by
  rw [h]
  unfold tW
  split
  · rfl
  · have a1 : decide (c ≤ 122) = false := decide_eq_false (by omega)
    have a2 : decide (97 ≤ c - 256) = false := decide_eq_false (by omega)
    rw [a1, a2, Bool.and_false, Bool.false_and]
def xS2 (M : fmM) (tx : tX) (n p : Nat) : Prop := (M.1 1 2).toInt = n ∧ (M.1 1 3).toInt = p ∧ p ≤ n ∧ tOk tx n ∧ ∀ i, i < n → bt (M.1 2 i) (tx i)
theorem xS2.of {M M' : fmM} {tx : tX} {n p : Nat} (h : xS2 M tx n p) (e1 : M'.1 1 2 = M.1 1 2) (e2 : M'.1 1 3 = M.1 1 3) (e3 : M'.1 2 = M.1 2) : xS2 M' tx n p := by
  obtain ⟨a, b, c, d, e⟩ := h
  exact ⟨by rw [e1]; exact a, by rw [e2]; exact b, c, d, by rw [e3]; exact e⟩
theorem xS2.set {M : fmM} {tx : tX} {n p q : Nat} {x : Int32} (h : xS2 M tx n p) (hx : x.toInt = q) (hq : q ≤ n) : xS2 (fmI M 1 3 x) tx n q := by
  obtain ⟨a, b, c, d, e⟩ := h
  exact ⟨a, hx, hq, d, e⟩
theorem xS2.lt {M : fmM} {tx : tX} {n p : Nat} (h : xS2 M tx n p) (hc : ¬ M.1 1 2 ≤ M.1 1 3) : p < n := by
  rw [sc_le] at hc
  have h1 := h.1
  have h2 := h.2.1
  omega
theorem xS2.ge {M : fmM} {tx : tX} {n p : Nat} (h : xS2 M tx n p) (hc : M.1 1 2 ≤ M.1 1 3) : p = n := by
  rw [sc_le] at hc
  have h1 := h.1
  have h2 := h.2.1
  have h3 := h.2.2.1
  omega
theorem xS2.byte {M : fmM} {tx : tX} {n p : Nat} (h : xS2 M tx n p) (hp : p < n) : bt (M.1 2 (M.1 1 3).toNatClampNeg) (tx p) ∧ 0 ≤ tx p ∧ tx p ≤ 255 := by
  rw [i32_cl h.2.1]
  exact ⟨h.2.2.2.2 p hp, h.2.2.2.1.2.2 p hp⟩
theorem xS2.inb {M : fmM} {tx : tX} {n p : Nat} (h : xS2 M tx n p) (hp : p < n) : vp_in (M.1 1 3) 600 := ix_in h.2.1 (by have := h.2.2.2.1.1; omega)
theorem xS2.bl {M : fmM} {tx : tX} {n p : Nat} {x : Int32} (h : xS2 M tx n p) (hx : x.toInt = sk tx p) : xS2 (fmI M 1 3 x) tx n (sk tx p) := h.set hx (sp_le tB_1 h.2.2.2.1 h.2.2.1)
theorem bt.B {x : Int32} {c : Int} (h : bt x c) (h1 : c ≤ 255) : tB c = decide (x = 32) := by
  unfold tB
  have e : (c = 32) ↔ (x = 32) := by
    rw [← h.eq h1 (by decide) (by decide)]
    constructor
    · intro h9
      exact i32_ext (h9.trans (by decide))
    · intro h9
      rw [h9]
      decide
  exact decide_eq_decide.mpr e
def xdFr (M M' : fmM) : Prop := (∀ k j, k ≠ 1 → M'.1 k j = M.1 k j ∧ M'.2 k j = M.2 k j) ∧ (∀ j, j ≠ 3 → j ≠ 4 → j ≠ 5 → M'.1 1 j = M.1 1 j)
def xdOk (M M' : fmM) (tx : tX) (n q : Nat) : Prop := xS2 M' tx n q ∧ M'.1 1 4 = 0 ∧ xdFr M M' ∧ scInv Tx invX M'
def xdBad (M M' : fmM) (k a : Nat) : Prop := (M'.1 1 4).toInt = k ∧ (M'.1 1 5).toInt = a ∧ k ≠ 0 ∧ xdFr M M' ∧ scInv Tx invX M'
theorem xdFr.refl (M : fmM) : xdFr M M := ⟨fun _ _ _ => ⟨rfl, rfl⟩, fun _ _ _ _ => rfl⟩
theorem xdFr.trans {M M1 M2 : fmM} (h : xdFr M M1) (h' : xdFr M1 M2) : xdFr M M2 := ⟨fun k j a => ⟨(h'.1 k j a).1.trans (h.1 k j a).1, (h'.1 k j a).2.trans (h.1 k j a).2⟩, fun j a b c => (h'.2 j a b c).trans (h.2 j a b c)⟩
theorem xdFr.set {M M1 : fmM} {j : Nat} {x : Int32} (h : xdFr M M1) (hj : j = 3 ∨ j = 4 ∨ j = 5) : xdFr M (fmI M1 1 j x) := by
  refine ⟨fun k' j' a => ⟨?_, (h.1 k' j' a).2⟩, fun j' a b c => ?_⟩
  · rw [fmI_k _ _ a]
    exact (h.1 k' j' a).1
  · rw [fmI_j _ _ (by omega)]
    exact h.2 j' a b c
theorem xdFr.of3 {M M' : fmM} (h : scFr [(1, 3, 3)] M M') : xdFr M M' := by
  refine ⟨fun k j hk => h k j ?_, fun j a b c => (h 1 j ?_).1⟩
  · have e : ((1 : Nat) == k) = false := by
      rw [beq_eq_false_iff_ne]
      omega
    simp [scIn, e]
  · by_cases h3 : j < 3
    · have e : Nat.ble 3 j = false := by
        cases h9 : Nat.ble 3 j with
        | false => rfl
        | true => exact absurd (Nat.le_of_ble_eq_true h9) (by omega)
      show ((((1 : Nat) == 1) && Nat.ble 3 j && Nat.blt j (3 + 3)) || false) = false
      rw [e]
      rfl
    · have e : Nat.blt j (3 + 3) = false := by
        cases h9 : Nat.blt j (3 + 3) with
        | false => rfl
        | true => exact absurd (Nat.le_of_ble_eq_true h9) (by omega)
      show ((((1 : Nat) == 1) && Nat.ble 3 j && Nat.blt j (3 + 3)) || false) = false
      rw [e, Bool.and_false]
      rfl
theorem xdFr.of1 {M M' : fmM} (h : scFr [(1, 3, 1)] M M') : xdFr M M' := xdFr.of3 (scFr.trans scFr.rfl h (by decide))
/-- a state with a fault stays one, whatever is read -/
theorem xdBad.go {M M1 M2 : fmM} {k a : Nat} (h : xdBad M M1 k a) (h' : scFr [(1, 3, 1)] M1 M2) (hI : scInv Tx invX M2) : xdBad M M2 k a := ⟨by rw [(h' 1 4 rfl).1]; exact h.1, by rw [(h' 1 5 rfl).1]; exact h.2.1, h.2.2.1, h.2.2.2.1.trans (xdFr.of1 h'), hI⟩
theorem xdBad.nz {M M' : fmM} {k a : Nat} (h : xdBad M M' k a) : ¬ M'.1 1 4 = 0 := by
  intro e
  have h1 := h.1
  rw [e] at h1
  have e0 : (0 : Int32).toInt = 0 := by decide
  have := h.2.2.1
  omega
theorem xdBad.f13 {M M' : fmM} {k a : Nat} (h : xdBad M M' k a) : 1 ≤ (M'.1 1 4).toInt ∧ (M'.1 1 4).toInt ≤ 3 := by
  have h9 : 0 ≤ (M'.1 1 4).toInt ∧ (M'.1 1 4).toInt ≤ 3 := h.2.2.2.2.1 1 4 (by decide)
  have h1 := h.1
  have := h.2.2.1
  omega
theorem xI_3 {M : fmM} {x : Int32} {q n : Nat} (hI : scInv Tx invX M) (hx : x.toInt = q) (hq : q ≤ n) (hn : n ≤ 600) : scInv Tx invX (fmI M 1 3 x) := xInv.put hI ⟨by show (0 : Int) ≤ _; omega, by show _ ≤ (600 : Int); omega⟩
theorem xI_45 {M : fmM} {k a : Int32} {kk aa n : Nat} (hI : scInv Tx invX M) (hk : k.toInt = kk) (h3 : kk ≤ 3) (ha : a.toInt = aa) (h6 : aa ≤ n) (hn : n ≤ 600) : scInv Tx invX (fmI (fmI M 1 4 k) 1 5 a) := xInv.put (xInv.put hI ⟨by show (0 : Int) ≤ _; omega, by show _ ≤ (3 : Int); omega⟩) ⟨by show (-1 : Int) ≤ _; omega, by show _ ≤ (600 : Int); omega⟩
theorem xdOk.at {M : fmM} {tx : tX} {n p q : Nat} {x : Int32} (hS : xS2 M tx n p) (hf : M.1 1 4 = 0) (hI : scInv Tx invX M) (hx : x.toInt = q) (hq : q ≤ n) : xdOk M (fmI M 1 3 x) tx n q := ⟨hS.set hx hq, hf, (xdFr.refl M).set (Or.inl rfl), xI_3 hI hx hq hS.2.2.2.1.1⟩
theorem xdBad.at {M : fmM} {tx : tX} {n p q kk aa : Nat} {x k a : Int32} (hS : xS2 M tx n p) (hI : scInv Tx invX M) (hx : x.toInt = q) (hq : q ≤ n) (hk : k.toInt = kk) (h3 : kk ≤ 3) (h0 : kk ≠ 0) (ha : a.toInt = aa) (h6 : aa ≤ n) : xdBad M (fmI (fmI (fmI M 1 3 x) 1 4 k) 1 5 a) kk aa := ⟨hk, ha, h0, (((xdFr.refl M).set (Or.inl rfl)).set (Or.inr (Or.inl rfl))).set (Or.inr (Or.inr rfl)), xI_45 (xI_3 hI hx hq hS.2.2.2.1.1) hk h3 ha h6 hS.2.2.2.1.1⟩
theorem xnm {tx : tX} {q w : Nat} {x v : Int32} (hb : bt x (tx q)) (h255 : tx q ≤ 255) (hd : tD (tx q) = true) (hv : v.toInt = min (w : Int) 1000000) : (pvMx false 1000000 (v * 10 + x - 48)).toInt = min ((10 * w + (tx q - 48).toNat : Nat) : Int) 1000000 := by
  have hd9 := tD_in hd
  have e1 : x.toInt = tx q := by
    rw [hb, if_pos (by omega)]
  have e10 : (10 : Int32).toInt = 10 := by decide
  have e48 : (48 : Int32).toInt = 48 := by decide
  have eM : (1000000 : Int32).toInt = 1000000 := by decide
  have b1 : 0 ≤ v.toInt ∧ v.toInt ≤ 1000000 := by omega
  have m1 : (v * 10).toInt = v.toInt * 10 := by
    rw [sc_mul (by rw [e10]; omega) (by rw [e10]; omega), e10]
  have m2 : (v * 10 + x).toInt = v.toInt * 10 + x.toInt := by rw [sc_add (by omega) (by omega), m1]
  have m3 : (v * 10 + x - 48).toInt = v.toInt * 10 + x.toInt - 48 := by rw [sc_sub (by omega) (by omega), m2, e48]
  show (if (1000000 : Int32).toInt ≤ (v * 10 + x - 48).toInt then (1000000 : Int32) else v * 10 + x - 48).toInt = _
  rw [eM, m3]
  split
  · rw [eM]
    omega
  · rw [m3]
    omega
/-- words, one behind the other, each with a blank behind it -/
def fndF (tx : tX) (s e : Nat) : List Int → Nat → Nat → Bool → Option Nat
  | [], _, _, _ => none
  | c :: cs, w, a, b => if c = 32 then (if b && decide (a = e) then some w else fndF tx s e cs (w + 1) s true) else fndF tx s e cs w (a + 1) (b && decide (a < e) && decide (tx a = c))
def wdI : List (List Int) → List Int → Nat → Option Nat
  | [], _, _ => none
  | w :: ws, u, k => if u = w then some k else wdI ws u (k + 1)
def flat1 : List (List Int) → List Int
  | [] => []
  | w :: ws => w ++ 32 :: flat1 ws
theorem fnd_w {tx : tX} {n s e : Nat} (ht : tOk tx n) : ∀ (u : List Int) (cs : List Int) (w a : Nat), a ≤ e → e ≤ n → sp tW tx a = e → (∀ c ∈ u, ¬ c = 32) → fndF tx s e (u ++ 32 :: cs) w a true = if wd tx a = u then some w else fndF tx s e cs (w + 1) s true := by
  intro u
  have hdead : ∀ (u : List Int) (cs : List Int) (w a : Nat), (∀ c ∈ u, ¬ c = 32) → fndF tx s e (u ++ 32 :: cs) w a false = fndF tx s e cs (w + 1) s true := by
    intro u
    induction u with
    | nil =>
      intro cs w a _
      show (if (32 : Int) = 32 then (if (false && decide (a = e)) then some w else fndF tx s e cs (w + 1) s true) else _) = _
      rw [if_pos rfl, Bool.false_and]
      rfl
    | cons c u ih =>
      intro cs w a hu
      show (if c = 32 then _ else fndF tx s e (u ++ 32 :: cs) w (a + 1) (false && decide (a < e) && decide (tx a = c))) = _
      rw [if_neg (hu c List.mem_cons_self), Bool.false_and, Bool.false_and]
      exact ih cs w (a + 1) (fun c hc => hu c (List.mem_cons_of_mem _ hc))
  induction u with
  | nil =>
    intro cs w a ha hen he _
    show (if (32 : Int) = 32 then (if (true && decide (a = e)) then some w else fndF tx s e cs (w + 1) s true) else _) = _
    rw [if_pos rfl, Bool.true_and]
    by_cases h : a = e
    · have hf : tW (tx a) = false := by
        have h9 := sp_stop (P := tW) (p := a) tW_1 ht (by omega)
        rw [he, ← h] at h9
        exact h9
      rw [wd_f hf, if_pos rfl, if_pos (decide_eq_true h)]
    · have hw : tW (tx a) = true := by
        cases h9 : tW (tx a) with
        | true => rfl
        | false =>
          rw [sp_f h9] at he
          exact absurd he h
      rw [wd_t (by have := ht.1; omega) hw, if_neg (by simp [h]), if_neg (by simp)]
  | cons c u ih =>
    intro cs w a ha hen he hu
    show (if c = 32 then _ else fndF tx s e (u ++ 32 :: cs) w (a + 1) (true && decide (a < e) && decide (tx a = c))) = _
    rw [if_neg (hu c List.mem_cons_self), Bool.true_and]
    have hu' : ∀ c ∈ u, ¬ c = 32 := fun c hc => hu c (List.mem_cons_of_mem _ hc)
    by_cases h : a = e
    · have hf : tW (tx a) = false := by
        have h9 := sp_stop (P := tW) (p := a) tW_1 ht (by omega)
        rw [he, ← h] at h9
        exact h9
      rw [wd_f hf, if_neg (by simp), decide_eq_false (by omega), Bool.false_and]
      exact hdead u cs w (a + 1) hu'
    · have hw : tW (tx a) = true := by
        cases h9 : tW (tx a) with
        | true => rfl
        | false =>
          rw [sp_f h9] at he
          exact absurd he h
      have h700 : a < 700 := by have := ht.1; omega
      rw [wd_t h700 hw, decide_eq_true (show a < e by omega), Bool.true_and]
      by_cases hc : tx a = c
      · rw [decide_eq_true hc, ih cs w (a + 1) (by omega) hen (by rw [← sp_t h700 hw]; exact he) hu']
        by_cases h8 : wd tx (a + 1) = u
        · rw [if_pos h8, if_pos (by rw [hc, h8])]
        · rw [if_neg h8, if_neg (by intro h7; injection h7 with h6 h5; exact h8 h5)]
      · rw [decide_eq_false hc, if_neg (by intro h7; injection h7 with h6 h5; exact hc h6)]
        exact hdead u cs w (a + 1) hu'
theorem fnd_all {tx : tX} {n s e : Nat} (ht : tOk tx n) (hs : s ≤ e) (hen : e ≤ n) (he : sp tW tx s = e) : ∀ (ws : List (List Int)) (w : Nat), (∀ u ∈ ws, ∀ c ∈ u, ¬ c = 32) → fndF tx s e (flat1 ws) w s true = wdI ws (wd tx s) w := by
  intro ws
  induction ws with
  | nil => intro w _; rfl
  | cons u ws ih =>
    intro w hu
    show fndF tx s e (u ++ 32 :: flat1 ws) w s true = _
    rw [fnd_w ht u (flat1 ws) w s hs hen he (hu u List.mem_cons_self)]
    simp only [wdI]
    rw [ih (w + 1) (fun v hv => hu v (List.mem_cons_of_mem _ hv))]
set_option maxRecDepth 20000 in
theorem xpk_loop {Q : fmR → fmM → Prop} {tx : tX} {n : Nat} : ∀ (m : Nat) (M : fmM) (p : Nat), xS2 M tx n p → n - p = m → (∀ x v : Int32, x.toInt = sk tx p → v.toInt = tx (sk tx p) → Q (.inl (some (.int v))) (fmI M 1 3 x)) → pvEv Tx 0 qX7_peek 0 [some (.ref 1)] [] M Q := by
  intro m
  induction m using Nat.strongRecOn with
  | _ m ih =>
    intro M p hS hm hq
    refine pv_aloadn (pc := 0) (n := 0) 0 rfl rfl (fm_dec dtX7_peek 0 rfl) ?_
    refine pv_getI (k := 1) (j := 3) (ci := 7) (pc := 1) pfl_X7_25 (by decide) rfl (by decide) (fm_dec dtX7_peek 1 rfl) ?_
    refine pv_aloadn (pc := 4) (n := 0) 0 rfl rfl (fm_dec dtX7_peek 2 rfl) ?_
    refine pv_getI (k := 1) (j := 2) (ci := 7) (pc := 5) pfl_X7_22 (by decide) rfl (by decide) (fm_dec dtX7_peek 3 rfl) ?_
    refine pv_icmp_ge (pc := 8) 38 (by decide) (fm_dec dtX7_peek 4 rfl) (fun hc8 => ?_) (fun hc8 => ?_)
    · refine pv_aloadn (pc := 38) (n := 0) 0 rfl rfl (fm_dec dtX7_peek 19 rfl) ?_
      refine pv_getI (k := 1) (j := 3) (ci := 7) (pc := 39) pfl_X7_25 (by decide) rfl (by decide) (fm_dec dtX7_peek 20 rfl) ?_
      refine pv_aloadn (pc := 42) (n := 0) 0 rfl rfl (fm_dec dtX7_peek 21 rfl) ?_
      refine pv_getI (k := 1) (j := 2) (ci := 7) (pc := 43) pfl_X7_22 (by decide) rfl (by decide) (fm_dec dtX7_peek 22 rfl) ?_
      refine pv_icmp_ge (pc := 46) 65 (by decide) (fm_dec dtX7_peek 23 rfl) (fun _ => ?_) (fun hc46 => by exfalso; exact hc46 hc8)
      refine pv_iconst (pc := 65) (v := (-1)) (by decide) (fm_dec dtX7_peek 32 rfl) ?_
      exact pv_ireturn (pc := 66) rfl (fm_dec dtX7_peek 33 rfl) (by have e9 := hS.ge hc8; subst e9; have h9 := hq (M.1 1 3) (-1) (by rw [hS.2.1]; unfold sk; rw [sp_f (by rw [hS.2.2.2.1.2.1 p (Nat.le_refl _)]; exact tB_1)]) (by unfold sk; rw [sp_f (by rw [hS.2.2.2.1.2.1 p (Nat.le_refl _)]; exact tB_1), hS.2.2.2.1.2.1 p (Nat.le_refl _)]; decide); rw [fmI_id] at h9; exact h9)
    · refine pv_aloadn (pc := 11) (n := 0) 0 rfl rfl (fm_dec dtX7_peek 5 rfl) ?_
      refine pv_getR (k := 1) (j := 0) (ci := 7) (pc := 12) 2 rfl (by decide) pfl_X7_9 (by decide) rfl (by decide) (fm_dec dtX7_peek 6 rfl) ?_
      refine pv_aloadn (pc := 15) (n := 0) 0 rfl rfl (fm_dec dtX7_peek 7 rfl) ?_
      refine pv_getI (k := 1) (j := 3) (ci := 7) (pc := 16) pfl_X7_25 (by decide) rfl (by decide) (fm_dec dtX7_peek 8 rfl) ?_
      refine pv_bald (k := 2) (n := 600) (pc := 19) (by decide) rfl rfl (hS.inb (hS.lt hc8)) (fm_dec dtX7_peek 9 rfl) ?_
      refine pv_bipush (pc := 20) (v := 32) (by decide) (fm_dec dtX7_peek 10 rfl) ?_
      refine pv_icmp_ne (pc := 22) 38 (by decide) (fm_dec dtX7_peek 11 rfl) (fun hc22 => ?_) (fun hc22 => ?_)
      · refine pv_aloadn (pc := 38) (n := 0) 0 rfl rfl (fm_dec dtX7_peek 19 rfl) ?_
        refine pv_getI (k := 1) (j := 3) (ci := 7) (pc := 39) pfl_X7_25 (by decide) rfl (by decide) (fm_dec dtX7_peek 20 rfl) ?_
        refine pv_aloadn (pc := 42) (n := 0) 0 rfl rfl (fm_dec dtX7_peek 21 rfl) ?_
        refine pv_getI (k := 1) (j := 2) (ci := 7) (pc := 43) pfl_X7_22 (by decide) rfl (by decide) (fm_dec dtX7_peek 22 rfl) ?_
        refine pv_icmp_ge (pc := 46) 65 (by decide) (fm_dec dtX7_peek 23 rfl) (fun hc46 => by exfalso; exact hc8 hc46) (fun _ => ?_)
        refine pv_aloadn (pc := 49) (n := 0) 0 rfl rfl (fm_dec dtX7_peek 24 rfl) ?_
        refine pv_getR (k := 1) (j := 0) (ci := 7) (pc := 50) 2 rfl (by decide) pfl_X7_9 (by decide) rfl (by decide) (fm_dec dtX7_peek 25 rfl) ?_
        refine pv_aloadn (pc := 53) (n := 0) 0 rfl rfl (fm_dec dtX7_peek 26 rfl) ?_
        refine pv_getI (k := 1) (j := 3) (ci := 7) (pc := 54) pfl_X7_25 (by decide) rfl (by decide) (fm_dec dtX7_peek 27 rfl) ?_
        refine pv_bald (k := 2) (n := 600) (pc := 57) (by decide) rfl rfl (hS.inb (hS.lt hc8)) (fm_dec dtX7_peek 28 rfl) ?_
        refine pv_sipush (pc := 58) (v := 255) (by decide) (fm_dec dtX7_peek 29 rfl) ?_
        refine pv_iand (pc := 61) (fm_dec dtX7_peek 30 rfl) ?_
        refine pv_goto (pc := 62) 66 (by decide) (fm_dec dtX7_peek 31 rfl) ?_
        exact pv_ireturn (pc := 66) rfl (fm_dec dtX7_peek 33 rfl) (by have hp := hS.lt hc8; have hb := hS.byte hp; have hB : tB (tx p) = false := (by rw [hb.1.B hb.2.2]; exact decide_eq_false hc22); have h9 := hq (M.1 1 3) _ (by rw [hS.2.1]; unfold sk; rw [sp_f hB]) (by unfold sk; rw [sp_f hB]; exact hb.1.and hb.2.1 hb.2.2); rw [fmI_id] at h9; exact h9)
      · refine pv_aloadn (pc := 25) (n := 0) 0 rfl rfl (fm_dec dtX7_peek 12 rfl) ?_
        refine pv_dup (pc := 26) rfl (fm_dec dtX7_peek 13 rfl) ?_
        refine pv_getI (k := 1) (j := 3) (ci := 7) (pc := 27) pfl_X7_25 (by decide) rfl (by decide) (fm_dec dtX7_peek 14 rfl) ?_
        refine pv_iconst (pc := 30) (v := 1) (by decide) (fm_dec dtX7_peek 15 rfl) ?_
        refine pv_iadd (pc := 31) (fm_dec dtX7_peek 16 rfl) ?_
        refine pv_putI (k := 1) (j := 3) (ci := 7) (pc := 32) pfl_X7_25 (by decide) rfl (by decide) (fm_dec dtX7_peek 17 rfl) ?_
        refine pv_goto (pc := 35) 0 (by decide) (fm_dec dtX7_peek 18 rfl) ?_
        have hp := hS.lt hc8
        have hb := hS.byte hp
        have hB : tB (tx p) = true := (by rw [hb.1.B hb.2.2]; exact decide_eq_true hc22)
        have h700 : p < 700 := (by have := hS.2.2.2.1.1; omega)
        refine ih (n - (p + 1)) (by omega) _ (p + 1) (hS.set (i32_p1 hS.2.1 (by omega)) hp) rfl (fun x v hx hv => ?_)
        rw [fmI_fmI]
        exact hq x v (by unfold sk at hx ⊢; rw [sp_t h700 hB]; exact hx) (by unfold sk at hv ⊢; rw [sp_t h700 hB]; exact hv)
theorem c_xpeek {M : fmM} {Q : fmR → fmM → Prop} {tx : tX} {n p : Nat} (hS : xS2 M tx n p) (hq : ∀ x v : Int32, x.toInt = sk tx p → v.toInt = tx (sk tx p) → Q (.inl (some (.int v))) (fmI M 1 3 x)) : pvGood Tx 0 qX7_peek [.ref 1] M Q := pvGood_of (Nat.le_of_ble_eq_true rfl) (xpk_loop _ M p hS rfl hq)
theorem x_peek {M : fmM} {Q : fmR → fmM → Prop} {tx : tX} {n p : Nat} (hS : xS2 M tx n p) (hf : M.1 1 4 = 0) (hI : scInv Tx invX M) (hq : ∀ (M' : fmM) (v : Int32), v.toInt = tx (sk tx p) → xdOk M M' tx n (sk tx p) → Q (.inl (some (.int v))) M') : pvGood Tx 0 qX7_peek [.ref 1] M Q := c_xpeek hS (fun x v hx hv => hq _ v hv (xdOk.at hS hf hI hx (sp_le tB_1 hS.2.2.2.1 hS.2.2.1)))
set_option maxRecDepth 20000 in
theorem c_xnext {M : fmM} {Q : fmR → fmM → Prop} {tx : tX} {n p : Nat} (hS : xS2 M tx n p) (hq : ∀ x : Int32, x.toInt = sk tx p → Q (.inl (some (.int x))) (fmI M 1 3 x)) : pvGood Tx 1 qX7_nextPlace [.ref 1] M Q := by
  refine pvGood_of (Nat.le_of_ble_eq_true rfl) ?_
  show pvEv Tx 1 qX7_nextPlace 0 [some (.ref 1)] [] M Q
  refine pv_aloadn (pc := 0) (n := 0) 0 rfl rfl (fm_dec dtX7_nextPlace 0 rfl) ?_
  refine pv_invV0 (k := 1) (d' := 0) (pc := 1) pcv_X7_31 (by decide) rfl (Nat.le_of_ble_eq_true rfl) (by decide) (fm_dec dtX7_nextPlace 1 rfl) ?_
  refine c_xpeek hS (fun x1 v1 hx1 hv1 => ?_)
  refine pv_then1 ?_
  refine pv_pop (pc := 4) rfl (fm_dec dtX7_nextPlace 2 rfl) ?_
  refine pv_aloadn (pc := 5) (n := 0) 0 rfl rfl (fm_dec dtX7_nextPlace 3 rfl) ?_
  refine pv_getI (k := 1) (j := 3) (ci := 7) (pc := 6) pfl_X7_25 (by decide) rfl (by decide) (fm_dec dtX7_nextPlace 4 rfl) ?_
  exact pv_ireturn (pc := 9) rfl (fm_dec dtX7_nextPlace 5 rfl) (hq x1 hx1)
theorem x_next {M : fmM} {Q : fmR → fmM → Prop} {tx : tX} {n p : Nat} (hS : xS2 M tx n p) (hf : M.1 1 4 = 0) (hI : scInv Tx invX M) (hq : ∀ (M' : fmM) (x : Int32), x.toInt = sk tx p → xdOk M M' tx n (sk tx p) → Q (.inl (some (.int x))) M') : pvGood Tx 1 qX7_nextPlace [.ref 1] M Q := c_xnext hS (fun x hx => hq _ x hx (xdOk.at hS hf hI hx (sp_le tB_1 hS.2.2.2.1 hS.2.2.1)))
set_option maxRecDepth 20000 in
theorem c_xfail0 {M : fmM} {Q : fmR → fmM → Prop} {k a : Int32} (hf : M.1 1 4 = 0) (hq : Q (.inl (some (.int 0))) (fmI (fmI M 1 4 k) 1 5 a)) : pvGood Tx 0 qX7_fail [.ref 1, .int k, .int a] M Q := by
  refine pvGood_of (Nat.le_of_ble_eq_true rfl) ?_
  show pvEv Tx 0 qX7_fail 0 [some (.ref 1), some (.int k), some (.int a)] [] M Q
  refine pv_aloadn (pc := 0) (n := 0) 0 rfl rfl (fm_dec dtX7_fail 0 rfl) ?_
  refine pv_getI (k := 1) (j := 4) (ci := 7) (pc := 1) pfl_X7_28 (by decide) rfl (by decide) (fm_dec dtX7_fail 1 rfl) ?_
  refine pv_if_ne (pc := 4) 17 (by decide) (fm_dec dtX7_fail 2 rfl) (fun hc4 => by exfalso; exact hc4 hf) (fun _ => ?_)
  refine pv_aloadn (pc := 7) (n := 0) 0 rfl rfl (fm_dec dtX7_fail 3 rfl) ?_
  refine pv_iloadn (pc := 8) (n := 1) 1 rfl rfl (fm_dec dtX7_fail 4 rfl) ?_
  refine pv_putI (k := 1) (j := 4) (ci := 7) (pc := 9) pfl_X7_28 (by decide) rfl (by decide) (fm_dec dtX7_fail 5 rfl) ?_
  refine pv_aloadn (pc := 12) (n := 0) 0 rfl rfl (fm_dec dtX7_fail 6 rfl) ?_
  refine pv_iloadn (pc := 13) (n := 2) 2 rfl rfl (fm_dec dtX7_fail 7 rfl) ?_
  refine pv_putI (k := 1) (j := 5) (ci := 7) (pc := 14) pfl_X7_15 (by decide) rfl (by decide) (fm_dec dtX7_fail 8 rfl) ?_
  refine pv_iconst (pc := 17) (v := 0) (by decide) (fm_dec dtX7_fail 9 rfl) ?_
  exact pv_zreturn (pc := 18) rfl (by first | exact Or.inr rfl | exact Or.inl rfl) (fm_dec dtX7_fail 10 rfl) hq
set_option maxRecDepth 20000 in
theorem c_xfail1 {M : fmM} {Q : fmR → fmM → Prop} {k a : Int32} (hf : ¬ M.1 1 4 = 0) (hq : Q (.inl (some (.int 0))) M) : pvGood Tx 0 qX7_fail [.ref 1, .int k, .int a] M Q := by
  refine pvGood_of (Nat.le_of_ble_eq_true rfl) ?_
  show pvEv Tx 0 qX7_fail 0 [some (.ref 1), some (.int k), some (.int a)] [] M Q
  refine pv_aloadn (pc := 0) (n := 0) 0 rfl rfl (fm_dec dtX7_fail 0 rfl) ?_
  refine pv_getI (k := 1) (j := 4) (ci := 7) (pc := 1) pfl_X7_28 (by decide) rfl (by decide) (fm_dec dtX7_fail 1 rfl) ?_
  refine pv_if_ne (pc := 4) 17 (by decide) (fm_dec dtX7_fail 2 rfl) (fun _ => ?_) (fun hc4 => by exfalso; exact hf hc4)
  refine pv_iconst (pc := 17) (v := 0) (by decide) (fm_dec dtX7_fail 9 rfl) ?_
  exact pv_zreturn (pc := 18) rfl (by first | exact Or.inr rfl | exact Or.inl rfl) (fm_dec dtX7_fail 10 rfl) hq
set_option maxRecDepth 20000 in
theorem c_xfailed {M : fmM} {Q : fmR → fmM → Prop}  (h0 : M.1 1 4 = 0 → Q (.inl (some (.int 0))) M) (h1 : ¬ M.1 1 4 = 0 → Q (.inl (some (.int 1))) M) : pvGood Tx 0 qX7_failed [.ref 1] M Q := by
  refine pvGood_of (Nat.le_of_ble_eq_true rfl) ?_
  show pvEv Tx 0 qX7_failed 0 [some (.ref 1)] [] M Q
  refine pv_aloadn (pc := 0) (n := 0) 0 rfl rfl (fm_dec dtX7_failed 0 rfl) ?_
  refine pv_getI (k := 1) (j := 4) (ci := 7) (pc := 1) pfl_X7_28 (by decide) rfl (by decide) (fm_dec dtX7_failed 1 rfl) ?_
  refine pv_if_eq (pc := 4) 11 (by decide) (fm_dec dtX7_failed 2 rfl) (fun hc4 => ?_) (fun hc4 => ?_)
  · refine pv_iconst (pc := 11) (v := 0) (by decide) (fm_dec dtX7_failed 5 rfl) ?_
    exact pv_zreturn (pc := 12) rfl (by first | exact Or.inr rfl | exact Or.inl rfl) (fm_dec dtX7_failed 6 rfl) (by first | exact h0 hc4 | exact h1 hc4)
  · refine pv_iconst (pc := 7) (v := 1) (by decide) (fm_dec dtX7_failed 3 rfl) ?_
    refine pv_goto (pc := 8) 12 (by decide) (fm_dec dtX7_failed 4 rfl) ?_
    exact pv_zreturn (pc := 12) rfl (by first | exact Or.inr rfl | exact Or.inl rfl) (fm_dec dtX7_failed 6 rfl) (by first | exact h0 hc4 | exact h1 hc4)
set_option maxRecDepth 20000 in
theorem x_sign {M : fmM} {Q : fmR → fmM → Prop} {tx : tX} {n p : Nat} {c : Int32} (hc : 0 ≤ c.toInt) (hS : xS2 M tx n p) (hf : M.1 1 4 = 0) (hI : scInv Tx invX M) (hok : ∀ (M' : fmM) (q : Nat), spSign tx c.toInt p = .inr ((), q) → xdOk M M' tx n q → Q (.inl (some (.int 1))) M') (hbad : ∀ (M' : fmM) (k a : Nat), spSign tx c.toInt p = .inl (k, a) → xdBad M M' k a → Q (.inl (some (.int 0))) M') : pvGood Tx 1 qX7_takeSign [.ref 1, .int c] M Q := by
  refine pvGood_of (Nat.le_of_ble_eq_true rfl) ?_
  show pvEv Tx 1 qX7_takeSign 0 [some (.ref 1), some (.int c)] [] M Q
  refine pv_aloadn (pc := 0) (n := 0) 0 rfl rfl (fm_dec dtX7_takeSign 0 rfl) ?_
  refine pv_invV0 (k := 1) (d' := 0) (pc := 1) pcv_X7_31 (by decide) rfl (Nat.le_of_ble_eq_true rfl) (by decide) (fm_dec dtX7_takeSign 1 rfl) ?_
  refine c_xpeek hS (fun x1 v1 hx1 hv1 => ?_)
  refine pv_then1 ?_
  refine pv_iloadn (pc := 4) (n := 1) 1 rfl rfl (fm_dec dtX7_takeSign 2 rfl) ?_
  refine pv_icmp_eq (pc := 5) 18 (by decide) (fm_dec dtX7_takeSign 3 rfl) (fun hc5 => ?_) (fun hc5 => ?_)
  · refine pv_aloadn (pc := 18) (n := 0) 0 rfl rfl (fm_dec dtX7_takeSign 10 rfl) ?_
    refine pv_dup (pc := 19) rfl (fm_dec dtX7_takeSign 11 rfl) ?_
    refine pv_getI (k := 1) (j := 3) (ci := 7) (pc := 20) pfl_X7_25 (by decide) rfl (by decide) (fm_dec dtX7_takeSign 12 rfl) ?_
    refine pv_iconst (pc := 23) (v := 1) (by decide) (fm_dec dtX7_takeSign 13 rfl) ?_
    refine pv_iadd (pc := 24) (fm_dec dtX7_takeSign 14 rfl) ?_
    refine pv_putI (k := 1) (j := 3) (ci := 7) (pc := 25) pfl_X7_25 (by decide) rfl (by decide) (fm_dec dtX7_takeSign 15 rfl) ?_
    refine pv_iconst (pc := 28) (v := 1) (by decide) (fm_dec dtX7_takeSign 16 rfl) ?_
    exact pv_zreturn (pc := 29) rfl (by first | exact Or.inr rfl | exact Or.inl rfl) (fm_dec dtX7_takeSign 17 rfl) (by rw [fmI_fmI]; have e9 : spSign tx c.toInt p = .inr ((), sk tx p + 1) := (by unfold spSign; rw [if_pos (by rw [← hv1, hc5])]); exact hok _ _ e9 (xdOk.at hS hf hI (i32_p1 hx1 (by have := hS.2.2.2.1.1; have := (sp_le tB_1 hS.2.2.2.1 hS.2.2.1); unfold sk; omega)) (spSign_ok hS.2.2.2.1 hS.2.2.1 hc e9).2))
  · refine pv_aloadn (pc := 8) (n := 0) 0 rfl rfl (fm_dec dtX7_takeSign 4 rfl) ?_
    refine pv_iconst (pc := 9) (v := 1) (by decide) (fm_dec dtX7_takeSign 5 rfl) ?_
    refine pv_aloadn (pc := 10) (n := 0) 0 rfl rfl (fm_dec dtX7_takeSign 6 rfl) ?_
    refine pv_getI (k := 1) (j := 3) (ci := 7) (pc := 11) pfl_X7_25 (by decide) rfl (by decide) (fm_dec dtX7_takeSign 7 rfl) ?_
    refine pv_invV2 (k := 1) (d' := 0) (pc := 14) pcv_X7_35 (by decide) rfl (Nat.le_of_ble_eq_true rfl) (by decide) (fm_dec dtX7_takeSign 8 rfl) ?_
    refine c_xfail0 hf ?_
    refine pv_then1 ?_
    exact pv_zreturn (pc := 17) rfl (by first | exact Or.inr rfl | exact Or.inl rfl) (fm_dec dtX7_takeSign 9 rfl) (by have e9 : spSign tx c.toInt p = .inl (1, sk tx p) := (by unfold spSign; rw [if_neg (fun h9 => hc5 (i32_ext (hv1.trans h9)))]); exact hbad _ _ _ e9 (xdBad.at hS hI hx1 (sp_le tB_1 hS.2.2.2.1 hS.2.2.1) (by decide) (by decide) (by decide) hx1 (sp_le tB_1 hS.2.2.2.1 hS.2.2.1)))
set_option maxRecDepth 20000 in
theorem xn_loop {Q : fmR → fmM → Prop} {tx : tX} {n : Nat} {lo hi st : Int32} : ∀ (m : Nat) (M : fmM) (q : Nat) (v : Int32) (w : Nat), xS2 M tx n q → n - q = m → v.toInt = min (w : Int) 1000000 → (∀ x v' : Int32, x.toInt = sp tD tx q → v'.toInt = min (nu tx q w : Int) 1000000 → pvEv Tx 2 qX7_takeNumber 85 [some (.ref 1), some (.int lo), some (.int hi), some (.int st), some (.int v')] [] (fmI M 1 3 x) Q) → pvEv Tx 2 qX7_takeNumber 8 [some (.ref 1), some (.int lo), some (.int hi), some (.int st), some (.int v)] [] M Q := by
  intro m
  induction m using Nat.strongRecOn with
  | _ m ih =>
    intro M q v w hS hm hv hq
    refine pv_aloadn (pc := 8) (n := 0) 0 rfl rfl (fm_dec dtX7_takeNumber 5 rfl) ?_
    refine pv_getI (k := 1) (j := 3) (ci := 7) (pc := 9) pfl_X7_25 (by decide) rfl (by decide) (fm_dec dtX7_takeNumber 6 rfl) ?_
    refine pv_aloadn (pc := 12) (n := 0) 0 rfl rfl (fm_dec dtX7_takeNumber 7 rfl) ?_
    refine pv_getI (k := 1) (j := 2) (ci := 7) (pc := 13) pfl_X7_22 (by decide) rfl (by decide) (fm_dec dtX7_takeNumber 8 rfl) ?_
    refine pv_icmp_ge (pc := 16) 85 (by decide) (fm_dec dtX7_takeNumber 9 rfl) (fun hc16 => ?_) (fun hc16 => ?_)
    · have hD : tD (tx q) = false := (by have e9 := hS.ge hc16; subst e9; rw [hS.2.2.2.1.2.1 q (Nat.le_refl _)]; exact tD_1)
      have h9 := hq (M.1 1 3) v (by rw [hS.2.1, sp_f hD]) (by rw [nu_f hD]; exact hv)
      rw [fmI_id] at h9
      exact h9
    · refine pv_aloadn (pc := 19) (n := 0) 0 rfl rfl (fm_dec dtX7_takeNumber 10 rfl) ?_
      refine pv_getR (k := 1) (j := 0) (ci := 7) (pc := 20) 2 rfl (by decide) pfl_X7_9 (by decide) rfl (by decide) (fm_dec dtX7_takeNumber 11 rfl) ?_
      refine pv_aloadn (pc := 23) (n := 0) 0 rfl rfl (fm_dec dtX7_takeNumber 12 rfl) ?_
      refine pv_getI (k := 1) (j := 3) (ci := 7) (pc := 24) pfl_X7_25 (by decide) rfl (by decide) (fm_dec dtX7_takeNumber 13 rfl) ?_
      refine pv_bald (k := 2) (n := 600) (pc := 27) (by decide) rfl rfl (hS.inb (hS.lt hc16)) (fm_dec dtX7_takeNumber 14 rfl) ?_
      refine pv_bipush (pc := 28) (v := 48) (by decide) (fm_dec dtX7_takeNumber 15 rfl) ?_
      refine pv_icmp_lt (pc := 30) 85 (by decide) (fm_dec dtX7_takeNumber 16 rfl) (fun hc30 => ?_) (fun hc30 => ?_)
      · have hD : tD (tx q) = false := (by have hb := hS.byte (hS.lt hc16); rw [hb.1.D hb.2.2]; exact tD_f (Or.inl hc30))
        have h9 := hq (M.1 1 3) v (by rw [hS.2.1, sp_f hD]) (by rw [nu_f hD]; exact hv)
        rw [fmI_id] at h9
        exact h9
      · refine pv_aloadn (pc := 33) (n := 0) 0 rfl rfl (fm_dec dtX7_takeNumber 17 rfl) ?_
        refine pv_getR (k := 1) (j := 0) (ci := 7) (pc := 34) 2 rfl (by decide) pfl_X7_9 (by decide) rfl (by decide) (fm_dec dtX7_takeNumber 18 rfl) ?_
        refine pv_aloadn (pc := 37) (n := 0) 0 rfl rfl (fm_dec dtX7_takeNumber 19 rfl) ?_
        refine pv_getI (k := 1) (j := 3) (ci := 7) (pc := 38) pfl_X7_25 (by decide) rfl (by decide) (fm_dec dtX7_takeNumber 20 rfl) ?_
        refine pv_bald (k := 2) (n := 600) (pc := 41) (by decide) rfl rfl (hS.inb (hS.lt hc16)) (fm_dec dtX7_takeNumber 21 rfl) ?_
        refine pv_bipush (pc := 42) (v := 57) (by decide) (fm_dec dtX7_takeNumber 22 rfl) ?_
        refine pv_icmp_gt (pc := 44) 85 (by decide) (fm_dec dtX7_takeNumber 23 rfl) (fun hc44 => ?_) (fun hc44 => ?_)
        · have hD : tD (tx q) = false := (by have hb := hS.byte (hS.lt hc16); rw [hb.1.D hb.2.2]; exact tD_f (Or.inr hc44))
          have h9 := hq (M.1 1 3) v (by rw [hS.2.1, sp_f hD]) (by rw [nu_f hD]; exact hv)
          rw [fmI_id] at h9
          exact h9
        · refine pv_ldc (pc := 47) pkc_X7_42 (fm_dec dtX7_takeNumber 24 rfl) ?_
          refine pv_iload (pc := 49) (i := 4) rfl (fm_dec dtX7_takeNumber 25 rfl) ?_
          refine pv_bipush (pc := 51) (v := 10) (by decide) (fm_dec dtX7_takeNumber 26 rfl) ?_
          refine pv_imul (pc := 53) (fm_dec dtX7_takeNumber 27 rfl) ?_
          refine pv_aloadn (pc := 54) (n := 0) 0 rfl rfl (fm_dec dtX7_takeNumber 28 rfl) ?_
          refine pv_getR (k := 1) (j := 0) (ci := 7) (pc := 55) 2 rfl (by decide) pfl_X7_9 (by decide) rfl (by decide) (fm_dec dtX7_takeNumber 29 rfl) ?_
          refine pv_aloadn (pc := 58) (n := 0) 0 rfl rfl (fm_dec dtX7_takeNumber 30 rfl) ?_
          refine pv_getI (k := 1) (j := 3) (ci := 7) (pc := 59) pfl_X7_25 (by decide) rfl (by decide) (fm_dec dtX7_takeNumber 31 rfl) ?_
          refine pv_bald (k := 2) (n := 600) (pc := 62) (by decide) rfl rfl (hS.inb (hS.lt hc16)) (fm_dec dtX7_takeNumber 32 rfl) ?_
          refine pv_iadd (pc := 63) (fm_dec dtX7_takeNumber 33 rfl) ?_
          refine pv_bipush (pc := 64) (v := 48) (by decide) (fm_dec dtX7_takeNumber 34 rfl) ?_
          refine pv_isub (pc := 66) (fm_dec dtX7_takeNumber 35 rfl) ?_
          refine pv_mm (pc := 67) pmm_X7_43 (by decide) (Nat.le_of_ble_eq_true rfl) (fm_dec dtX7_takeNumber 36 rfl) ?_
          refine pv_istore (pc := 70) (i := 4) (by decide) rfl (fm_dec dtX7_takeNumber 37 rfl) ?_
          dsimp only [List.set_cons_zero, List.set_cons_succ]
          refine pv_aloadn (pc := 72) (n := 0) 0 rfl rfl (fm_dec dtX7_takeNumber 38 rfl) ?_
          refine pv_dup (pc := 73) rfl (fm_dec dtX7_takeNumber 39 rfl) ?_
          refine pv_getI (k := 1) (j := 3) (ci := 7) (pc := 74) pfl_X7_25 (by decide) rfl (by decide) (fm_dec dtX7_takeNumber 40 rfl) ?_
          refine pv_iconst (pc := 77) (v := 1) (by decide) (fm_dec dtX7_takeNumber 41 rfl) ?_
          refine pv_iadd (pc := 78) (fm_dec dtX7_takeNumber 42 rfl) ?_
          refine pv_putI (k := 1) (j := 3) (ci := 7) (pc := 79) pfl_X7_25 (by decide) rfl (by decide) (fm_dec dtX7_takeNumber 43 rfl) ?_
          refine pv_goto (pc := 82) 8 (by decide) (fm_dec dtX7_takeNumber 44 rfl) ?_
          have hp := hS.lt hc16
          have hb := hS.byte hp
          have hD : tD (tx q) = true := (by rw [hb.1.D hb.2.2]; exact tD_t hc30 hc44)
          have h700 : q < 700 := (by have := hS.2.2.2.1.1; omega)
          refine ih (n - (q + 1)) (by omega) _ (q + 1) _ (10 * w + (tx q - 48).toNat) (hS.set (i32_p1 hS.2.1 (by omega)) hp) rfl (xnm hb.1 hb.2.2 hD hv) (fun x v' hx hv' => ?_)
          rw [fmI_fmI]
          exact hq x v' (by rw [sp_t h700 hD]; exact hx) (by rw [nu_t h700 hD]; exact hv')
theorem dg1 {tx : tX} {q : Nat} {x y : Int32} (hx : x.toInt = sp tD tx q) (hy : y.toInt = q) (h : ¬ x = y) (_ : True) : tD (tx q) = true := by
  cases h9 : tD (tx q) with
  | true => rfl
  | false =>
    rw [sp_f h9] at hx
    exact absurd (i32_ext (hx.trans hy.symm)) h
theorem dg0 {M : fmM} {tx : tX} {n p q : Nat} {x y : Int32} (hx : x.toInt = sp tD tx q) (hy : y.toInt = q) (h : x = y) (hS : xS2 M tx n p) (hq : q < 700) : tD (tx q) = false := by
  cases h9 : tD (tx q) with
  | false => rfl
  | true =>
    have h8 := sp_gt hq h9
    rw [h, hy] at hx
    omega
set_option maxRecDepth 20000 in
theorem x_num {M : fmM} {Q : fmR → fmM → Prop} {tx : tX} {n p : Nat} {lo hi : Int32} (h9hi : hi.toInt < 1000000) (hS : xS2 M tx n p) (hf : M.1 1 4 = 0) (hI : scInv Tx invX M) (hok : ∀ (M' : fmM) (v q : Nat) (w : Int32), spNum tx lo.toInt hi.toInt p = .inr (v, q) → w.toInt = v → xdOk M M' tx n q → Q (.inl (some (.int w))) M') (hbad : ∀ (M' : fmM) (k a : Nat), spNum tx lo.toInt hi.toInt p = .inl (k, a) → xdBad M M' k a → Q (.inl (some (.int (-1)))) M') : pvGood Tx 2 qX7_takeNumber [.ref 1, .int lo, .int hi] M Q := by
  refine pvGood_of (Nat.le_of_ble_eq_true rfl) ?_
  show pvEv Tx 2 qX7_takeNumber 0 [some (.ref 1), some (.int lo), some (.int hi), none, none] [] M Q
  refine pv_aloadn (pc := 0) (n := 0) 0 rfl rfl (fm_dec dtX7_takeNumber 0 rfl) ?_
  refine pv_invV0 (k := 1) (d' := 1) (pc := 1) pcv_X7_39 (by decide) rfl (Nat.le_of_ble_eq_true rfl) (by decide) (fm_dec dtX7_takeNumber 1 rfl) ?_
  refine c_xnext hS (fun x1 hx1 => ?_)
  refine pv_then1 ?_
  refine pv_istoren (pc := 4) (n := 3) 3 rfl (by decide) rfl (fm_dec dtX7_takeNumber 2 rfl) ?_
  dsimp only [List.set_cons_zero, List.set_cons_succ]
  refine pv_iconst (pc := 5) (v := 0) (by decide) (fm_dec dtX7_takeNumber 3 rfl) ?_
  refine pv_istore (pc := 6) (i := 4) (by decide) rfl (fm_dec dtX7_takeNumber 4 rfl) ?_
  dsimp only [List.set_cons_zero, List.set_cons_succ]
  have hsk : sk tx p ≤ n := (sp_le tB_1 hS.2.2.2.1 hS.2.2.1)
  have hsd : sp tD tx (sk tx p) ≤ n := sp_le tD_1 hS.2.2.2.1 hsk
  have h700 : sk tx p < 700 := (by have := hS.2.2.2.1.1; omega)
  refine xn_loop _ _ (sk tx p) _ 0 (hS.bl hx1) rfl (by decide) (fun x85 w85 hx85 hw85 => ?_)
  rw [fmI_fmI]
  refine pv_aloadn (pc := 85) (n := 0) 0 rfl rfl (fm_dec dtX7_takeNumber 45 rfl) ?_
  refine pv_getI (k := 1) (j := 3) (ci := 7) (pc := 86) pfl_X7_25 (by decide) rfl (by decide) (fm_dec dtX7_takeNumber 46 rfl) ?_
  refine pv_iloadn (pc := 89) (n := 3) 3 rfl rfl (fm_dec dtX7_takeNumber 47 rfl) ?_
  refine pv_icmp_ne (pc := 90) 102 (by decide) (fm_dec dtX7_takeNumber 48 rfl) (fun hc90 => ?_) (fun hc90 => ?_)
  · refine pv_iload (pc := 102) (i := 4) rfl (fm_dec dtX7_takeNumber 56 rfl) ?_
    refine pv_iloadn (pc := 104) (n := 1) 1 rfl rfl (fm_dec dtX7_takeNumber 57 rfl) ?_
    refine pv_icmp_lt (pc := 105) 114 (by decide) (fm_dec dtX7_takeNumber 58 rfl) (fun hc105 => ?_) (fun hc105 => ?_)
    · refine pv_aloadn (pc := 114) (n := 0) 0 rfl rfl (fm_dec dtX7_takeNumber 62 rfl) ?_
      refine pv_iconst (pc := 115) (v := 2) (by decide) (fm_dec dtX7_takeNumber 63 rfl) ?_
      refine pv_iloadn (pc := 116) (n := 3) 3 rfl rfl (fm_dec dtX7_takeNumber 64 rfl) ?_
      refine pv_invV2 (k := 1) (d' := 0) (pc := 117) pcv_X7_35 (by decide) rfl (Nat.le_of_ble_eq_true rfl) (by decide) (fm_dec dtX7_takeNumber 65 rfl) ?_
      refine c_xfail0 hf ?_
      refine pv_then1 ?_
      refine pv_pop (pc := 120) rfl (fm_dec dtX7_takeNumber 66 rfl) ?_
      refine pv_iconst (pc := 121) (v := (-1)) (by decide) (fm_dec dtX7_takeNumber 67 rfl) ?_
      exact pv_ireturn (pc := 122) rfl (fm_dec dtX7_takeNumber 68 rfl) (hbad _ 2 (sk tx p) (spNum_n (dg1 hx85 hx1 hc90 trivial) (by intro h9; rw [sc_lt] at hc105; omega)) (xdBad.at hS hI hx85 hsd (by decide) (by decide) (by decide) hx1 hsk))
    · refine pv_iload (pc := 108) (i := 4) rfl (fm_dec dtX7_takeNumber 59 rfl) ?_
      refine pv_iloadn (pc := 110) (n := 2) 2 rfl rfl (fm_dec dtX7_takeNumber 60 rfl) ?_
      refine pv_icmp_le (pc := 111) 123 (by decide) (fm_dec dtX7_takeNumber 61 rfl) (fun hc111 => ?_) (fun hc111 => ?_)
      · refine pv_iload (pc := 123) (i := 4) rfl (fm_dec dtX7_takeNumber 69 rfl) ?_
        exact pv_ireturn (pc := 125) rfl (fm_dec dtX7_takeNumber 70 rfl) (hok _ (nu tx (sk tx p) 0) (sp tD tx (sk tx p)) w85 (spNum_y (dg1 hx85 hx1 hc90 trivial) (by rw [sc_lt] at hc105; omega) (by rw [sc_le] at hc111; omega)) (by rw [sc_le] at hc111; omega) (xdOk.at hS hf hI hx85 hsd))
      · refine pv_aloadn (pc := 114) (n := 0) 0 rfl rfl (fm_dec dtX7_takeNumber 62 rfl) ?_
        refine pv_iconst (pc := 115) (v := 2) (by decide) (fm_dec dtX7_takeNumber 63 rfl) ?_
        refine pv_iloadn (pc := 116) (n := 3) 3 rfl rfl (fm_dec dtX7_takeNumber 64 rfl) ?_
        refine pv_invV2 (k := 1) (d' := 0) (pc := 117) pcv_X7_35 (by decide) rfl (Nat.le_of_ble_eq_true rfl) (by decide) (fm_dec dtX7_takeNumber 65 rfl) ?_
        refine c_xfail0 hf ?_
        refine pv_then1 ?_
        refine pv_pop (pc := 120) rfl (fm_dec dtX7_takeNumber 66 rfl) ?_
        refine pv_iconst (pc := 121) (v := (-1)) (by decide) (fm_dec dtX7_takeNumber 67 rfl) ?_
        exact pv_ireturn (pc := 122) rfl (fm_dec dtX7_takeNumber 68 rfl) (hbad _ 2 (sk tx p) (spNum_n (dg1 hx85 hx1 hc90 trivial) (by intro h9; rw [sc_le] at hc111; omega)) (xdBad.at hS hI hx85 hsd (by decide) (by decide) (by decide) hx1 hsk))
  · refine pv_aloadn (pc := 93) (n := 0) 0 rfl rfl (fm_dec dtX7_takeNumber 49 rfl) ?_
    refine pv_iconst (pc := 94) (v := 1) (by decide) (fm_dec dtX7_takeNumber 50 rfl) ?_
    refine pv_iloadn (pc := 95) (n := 3) 3 rfl rfl (fm_dec dtX7_takeNumber 51 rfl) ?_
    refine pv_invV2 (k := 1) (d' := 0) (pc := 96) pcv_X7_35 (by decide) rfl (Nat.le_of_ble_eq_true rfl) (by decide) (fm_dec dtX7_takeNumber 52 rfl) ?_
    refine c_xfail0 hf ?_
    refine pv_then1 ?_
    refine pv_pop (pc := 99) rfl (fm_dec dtX7_takeNumber 53 rfl) ?_
    refine pv_iconst (pc := 100) (v := (-1)) (by decide) (fm_dec dtX7_takeNumber 54 rfl) ?_
    exact pv_ireturn (pc := 101) rfl (fm_dec dtX7_takeNumber 55 rfl) (hbad _ 1 (sk tx p) (spNum_0 (dg0 hx85 hx1 hc90 hS h700)) (xdBad.at hS hI hx85 hsd (by decide) (by decide) (by decide) hx1 hsk))
def chs (i5 : Nat) : List Int := (List.range (fmLen.getD i5 0)).map (fun k => (chE i5 k).toInt)
def fdR (r : Option Nat) : Int32 := match r with
  | some j => nI j
  | none => -1
theorem chs_dr {i5 i : Nat} (h : i < fmLen.getD i5 0) : (chs i5).drop i = (chE i5 i).toInt :: (chs i5).drop (i + 1) := by
  have hl : i < (chs i5).length := by
    unfold chs
    simpa using h
  rw [List.drop_eq_getElem_cons hl]
  congr 1
  unfold chs
  simp
theorem chs_end {i5 i : Nat} (h : fmLen.getD i5 0 ≤ i) : (chs i5).drop i = [] := by
  apply List.drop_eq_nil_of_le
  unfold chs
  simpa using h
theorem ch_lt : ∀ i5, i5 < 5 → ∀ k, k < fmLen.getD i5 0 → 0 ≤ (chE i5 k).toInt ∧ (chE i5 k).toInt < 128 := by decide +kernel
set_option maxRecDepth 20000 in
theorem fd_loop {Q : fmR → fmM → Prop} {tx : tX} {n i5 sN eN : Nat} {M : fmM} {s e : Int32} (hi : i5 < 5) (hn : n ≤ 600) (hs : s.toInt = (sN : Int)) (he : e.toInt = (eN : Int)) (hen : eN ≤ n) (hse : sN ≤ eN) (hB : ∀ j, j < n → bt (M.1 2 j) (tx j) ∧ tx j ≤ 255) : ∀ (m : Nat) (i wN aN : Nat) (bb : Bool) (w a b : Int32) (v8 : Option Value), fmLen.getD i5 0 - i = m → i ≤ fmLen.getD i5 0 → w.toInt = (wN : Int) → a.toInt = (aN : Int) → b = (if bb = true then 1 else 0) → aN ≤ 600 + i → wN ≤ i → Q (.inl (some (.int (fdR (fndF tx sN eN ((chs i5).drop i) wN aN bb))))) M → pvEv Tx 4 qX7_find 12 [some (.ref 1), some (.ref (1000 + i5)), some (.int s), some (.int e), some (.int w), some (.int a), some (.int b), some (.int (nI i)), v8] [] M Q := by
  intro m
  induction m using Nat.strongRecOn with
  | _ m ih =>
    intro i wN aN bb w a b v8 hm hil0 hw ha hb ha7 hw7 hq
    refine pv_iload (pc := 12) (i := 7) rfl (fm_dec dtX7_find 8 rfl) ?_
    refine pv_aloadn (pc := 14) (n := 1) 1 rfl rfl (fm_dec dtX7_find 9 rfl) ?_
    refine pv_strlen (i := i5) (pc := 15) pcq_X7_53 hi (by decide) (Nat.le_of_ble_eq_true rfl) (fm_dec dtX7_find 10 rfl) ?_
    refine pv_icmp_ge (pc := 18) 101 (by decide) (fm_dec dtX7_find 11 rfl) (fun hc18 => ?_) (fun hc18 => ?_)
    · refine pv_iconst (pc := 101) (v := (-1)) (by decide) (fm_dec dtX7_find 50 rfl) ?_
      exact pv_ireturn (pc := 102) rfl (fm_dec dtX7_find 51 rfl) (by have hl64 := fmLen_lt i5 hi; have h9 := hq; rw [chs_end (by rw [sc_le] at hc18; have h9 : (nI (fmLen.getD i5 0)).toInt = ((fmLen.getD i5 0 : Nat) : Int) := nI_toInt (by omega); have h8 : (nI i).toInt = (i : Int) := nI_toInt (by omega); omega)] at h9; exact h9)
    · have hl64 := fmLen_lt i5 hi
      have hil : i < fmLen.getD i5 0 := (by rw [sc_le] at hc18; have h9 : (nI (fmLen.getD i5 0)).toInt = ((fmLen.getD i5 0 : Nat) : Int) := nI_toInt (by omega); have h8 : (nI i).toInt = (i : Int) := nI_toInt (by omega); omega)
      have hii : (nI i).toNatClampNeg = i := i32_cl (nI_toInt (by omega))
      refine pv_aloadn (pc := 21) (n := 1) 1 rfl rfl (fm_dec dtX7_find 12 rfl) ?_
      refine pv_iload (pc := 22) (i := 7) rfl (fm_dec dtX7_find 13 rfl) ?_
      refine pv_charAt (i := i5) (pc := 24) pcq_X7_57 hi (by have hl64 := fmLen_lt i5 hi; have h8 : (nI i).toInt = (i : Int) := nI_toInt (by omega); omega) (by have hl64 := fmLen_lt i5 hi; have h8 : (nI i).toInt = (i : Int) := nI_toInt (by omega); have h9 : (nI (fmLen.getD i5 0)).toInt = ((fmLen.getD i5 0 : Nat) : Int) := nI_toInt (by omega); rw [sc_le] at hc18; omega) (by decide) (Nat.le_of_ble_eq_true rfl) (fm_dec dtX7_find 14 rfl) ?_
      refine pv_istore (pc := 27) (i := 8) (by decide) rfl (fm_dec dtX7_find 15 rfl) ?_
      dsimp only [List.set_cons_zero, List.set_cons_succ]
      refine pv_iload (pc := 29) (i := 8) rfl (fm_dec dtX7_find 16 rfl) ?_
      refine pv_bipush (pc := 31) (v := 32) (by decide) (fm_dec dtX7_find 17 rfl) ?_
      refine pv_icmp_eq (pc := 33) 72 (by decide) (fm_dec dtX7_find 18 rfl) (fun hc33 => ?_) (fun hc33 => ?_)
      · refine pv_iload (pc := 72) (i := 6) rfl (fm_dec dtX7_find 36 rfl) ?_
        refine pv_if_eq (pc := 74) 86 (by decide) (fm_dec dtX7_find 37 rfl) (fun hc74 => ?_) (fun hc74 => ?_)
        · refine pv_iincc (pc := 86) 4 1 (by decide) rfl (by decide) rfl (fm_dec dtX7_find 43 rfl) ?_
          dsimp only [List.set_cons_zero, List.set_cons_succ]
          refine pv_iloadn (pc := 89) (n := 2) 2 rfl rfl (fm_dec dtX7_find 44 rfl) ?_
          refine pv_istore (pc := 90) (i := 5) (by decide) rfl (fm_dec dtX7_find 45 rfl) ?_
          dsimp only [List.set_cons_zero, List.set_cons_succ]
          refine pv_iconst (pc := 92) (v := 1) (by decide) (fm_dec dtX7_find 46 rfl) ?_
          refine pv_istore (pc := 93) (i := 6) (by decide) rfl (fm_dec dtX7_find 47 rfl) ?_
          dsimp only [List.set_cons_zero, List.set_cons_succ]
          refine pv_iincc (pc := 95) 7 1 (by decide) rfl (by decide) rfl (fm_dec dtX7_find 48 rfl) ?_
          dsimp only [List.set_cons_zero, List.set_cons_succ]
          refine pv_goto (pc := 98) 12 (by decide) (fm_dec dtX7_find 49 rfl) ?_
          have hb0 : bb = false := (by cases bb with | false => rfl | true => exact absurd (hb.symm.trans hc74) (by decide))
          have eF : fndF tx sN eN ((chs i5).drop i) wN aN bb = fndF tx sN eN ((chs i5).drop (i + 1)) (wN + 1) sN true := (by rw [chs_dr hil]; show (if (chE i5 i).toInt = 32 then (if (bb && decide (aN = eN)) = true then some wN else fndF tx sN eN ((chs i5).drop (i + 1)) (wN + 1) sN true) else _) = _; rw [if_pos (by rw [hii] at hc33; rw [hc33]; decide), if_neg (by rw [hb0]; simp)])
          rw [nI_succ1]
          exact ih (fmLen.getD i5 0 - (i + 1)) (by omega) (i + 1) (wN + 1) sN true _ _ _ _ rfl (by omega) (i32_p1 hw (by omega)) hs rfl (by omega) (by omega) (by rw [← eF]; exact hq)
        · refine pv_iload (pc := 77) (i := 5) rfl (fm_dec dtX7_find 38 rfl) ?_
          refine pv_iloadn (pc := 79) (n := 3) 3 rfl rfl (fm_dec dtX7_find 39 rfl) ?_
          refine pv_icmp_ne (pc := 80) 86 (by decide) (fm_dec dtX7_find 40 rfl) (fun hc80 => ?_) (fun hc80 => ?_)
          · refine pv_iincc (pc := 86) 4 1 (by decide) rfl (by decide) rfl (fm_dec dtX7_find 43 rfl) ?_
            dsimp only [List.set_cons_zero, List.set_cons_succ]
            refine pv_iloadn (pc := 89) (n := 2) 2 rfl rfl (fm_dec dtX7_find 44 rfl) ?_
            refine pv_istore (pc := 90) (i := 5) (by decide) rfl (fm_dec dtX7_find 45 rfl) ?_
            dsimp only [List.set_cons_zero, List.set_cons_succ]
            refine pv_iconst (pc := 92) (v := 1) (by decide) (fm_dec dtX7_find 46 rfl) ?_
            refine pv_istore (pc := 93) (i := 6) (by decide) rfl (fm_dec dtX7_find 47 rfl) ?_
            dsimp only [List.set_cons_zero, List.set_cons_succ]
            refine pv_iincc (pc := 95) 7 1 (by decide) rfl (by decide) rfl (fm_dec dtX7_find 48 rfl) ?_
            dsimp only [List.set_cons_zero, List.set_cons_succ]
            refine pv_goto (pc := 98) 12 (by decide) (fm_dec dtX7_find 49 rfl) ?_
            have eF : fndF tx sN eN ((chs i5).drop i) wN aN bb = fndF tx sN eN ((chs i5).drop (i + 1)) (wN + 1) sN true := (by rw [chs_dr hil]; show (if (chE i5 i).toInt = 32 then (if (bb && decide (aN = eN)) = true then some wN else fndF tx sN eN ((chs i5).drop (i + 1)) (wN + 1) sN true) else _) = _; rw [if_pos (by rw [hii] at hc33; rw [hc33]; decide), if_neg (by intro h9; rw [Bool.and_eq_true] at h9; exact hc80 (i32_ext (ha.trans ((congrArg Nat.cast (of_decide_eq_true h9.2)).trans he.symm))))])
            rw [nI_succ1]
            exact ih (fmLen.getD i5 0 - (i + 1)) (by omega) (i + 1) (wN + 1) sN true _ _ _ _ rfl (by omega) (i32_p1 hw (by omega)) hs rfl (by omega) (by omega) (by rw [← eF]; exact hq)
          · refine pv_iload (pc := 83) (i := 4) rfl (fm_dec dtX7_find 41 rfl) ?_
            exact pv_ireturn (pc := 85) rfl (fm_dec dtX7_find 42 rfl) (by have hb1 : bb = true := (by cases bb with | true => rfl | false => exact absurd hb hc74); have e1 : aN = eN := (by have h9 := congrArg Int32.toInt hc80; omega); have h9 := hq; rw [chs_dr hil] at h9; have e9 : fndF tx sN eN ((chE i5 i).toInt :: (chs i5).drop (i + 1)) wN aN bb = some wN := (by show (if (chE i5 i).toInt = 32 then (if (bb && decide (aN = eN)) = true then some wN else _) else _) = _; rw [if_pos (by rw [hii] at hc33; rw [hc33]; decide), if_pos (by rw [hb1, e1]; simp)]); rw [e9] at h9; rw [nI_is hw (by omega)]; exact h9)
      · refine pv_iload (pc := 36) (i := 6) rfl (fm_dec dtX7_find 19 rfl) ?_
        refine pv_if_eq (pc := 38) 63 (by decide) (fm_dec dtX7_find 20 rfl) (fun hc38 => ?_) (fun hc38 => ?_)
        · refine pv_iconst (pc := 63) (v := 0) (by decide) (fm_dec dtX7_find 32 rfl) ?_
          refine pv_istore (pc := 64) (i := 6) (by decide) rfl (fm_dec dtX7_find 33 rfl) ?_
          dsimp only [List.set_cons_zero, List.set_cons_succ]
          refine pv_iincc (pc := 66) 5 1 (by decide) rfl (by decide) rfl (fm_dec dtX7_find 34 rfl) ?_
          dsimp only [List.set_cons_zero, List.set_cons_succ]
          refine pv_goto (pc := 69) 95 (by decide) (fm_dec dtX7_find 35 rfl) ?_
          refine pv_iincc (pc := 95) 7 1 (by decide) rfl (by decide) rfl (fm_dec dtX7_find 48 rfl) ?_
          dsimp only [List.set_cons_zero, List.set_cons_succ]
          refine pv_goto (pc := 98) 12 (by decide) (fm_dec dtX7_find 49 rfl) ?_
          have hb0 : bb = false := (by cases bb with | false => rfl | true => exact absurd (hb.symm.trans hc38) (by decide))
          have eF : fndF tx sN eN ((chs i5).drop i) wN aN bb = fndF tx sN eN ((chs i5).drop (i + 1)) wN (aN + 1) false := (by rw [chs_dr hil]; show (if (chE i5 i).toInt = 32 then _ else fndF tx sN eN ((chs i5).drop (i + 1)) wN (aN + 1) (bb && decide (aN < eN) && decide (tx aN = (chE i5 i).toInt))) = _; rw [if_neg (fun h9 => hc33 (by rw [hii]; exact i32_ext (h9.trans (by decide))))]; congr 1; rw [hb0]; rfl)
          rw [nI_succ1]
          exact ih (fmLen.getD i5 0 - (i + 1)) (by omega) (i + 1) wN (aN + 1) false _ _ _ _ rfl (by omega) hw (i32_p1 ha (by omega)) rfl (by omega) (by omega) (by rw [← eF]; exact hq)
        · refine pv_iload (pc := 41) (i := 5) rfl (fm_dec dtX7_find 21 rfl) ?_
          refine pv_iloadn (pc := 43) (n := 3) 3 rfl rfl (fm_dec dtX7_find 22 rfl) ?_
          refine pv_icmp_ge (pc := 44) 63 (by decide) (fm_dec dtX7_find 23 rfl) (fun hc44 => ?_) (fun hc44 => ?_)
          · refine pv_iconst (pc := 63) (v := 0) (by decide) (fm_dec dtX7_find 32 rfl) ?_
            refine pv_istore (pc := 64) (i := 6) (by decide) rfl (fm_dec dtX7_find 33 rfl) ?_
            dsimp only [List.set_cons_zero, List.set_cons_succ]
            refine pv_iincc (pc := 66) 5 1 (by decide) rfl (by decide) rfl (fm_dec dtX7_find 34 rfl) ?_
            dsimp only [List.set_cons_zero, List.set_cons_succ]
            refine pv_goto (pc := 69) 95 (by decide) (fm_dec dtX7_find 35 rfl) ?_
            refine pv_iincc (pc := 95) 7 1 (by decide) rfl (by decide) rfl (fm_dec dtX7_find 48 rfl) ?_
            dsimp only [List.set_cons_zero, List.set_cons_succ]
            refine pv_goto (pc := 98) 12 (by decide) (fm_dec dtX7_find 49 rfl) ?_
            have eF : fndF tx sN eN ((chs i5).drop i) wN aN bb = fndF tx sN eN ((chs i5).drop (i + 1)) wN (aN + 1) false := (by rw [chs_dr hil]; show (if (chE i5 i).toInt = 32 then _ else fndF tx sN eN ((chs i5).drop (i + 1)) wN (aN + 1) (bb && decide (aN < eN) && decide (tx aN = (chE i5 i).toInt))) = _; rw [if_neg (fun h9 => hc33 (by rw [hii]; exact i32_ext (h9.trans (by decide))))]; congr 1; rw [decide_eq_false (show ¬ aN < eN by rw [sc_le] at hc44; omega), Bool.and_false, Bool.false_and])
            rw [nI_succ1]
            exact ih (fmLen.getD i5 0 - (i + 1)) (by omega) (i + 1) wN (aN + 1) false _ _ _ _ rfl (by omega) hw (i32_p1 ha (by omega)) rfl (by omega) (by omega) (by rw [← eF]; exact hq)
          · refine pv_aloadn (pc := 47) (n := 0) 0 rfl rfl (fm_dec dtX7_find 24 rfl) ?_
            refine pv_getR (k := 1) (j := 0) (ci := 7) (pc := 48) 2 rfl (by decide) pfl_X7_9 (by decide) rfl (by decide) (fm_dec dtX7_find 25 rfl) ?_
            refine pv_iload (pc := 51) (i := 5) rfl (fm_dec dtX7_find 26 rfl) ?_
            refine pv_bald (k := 2) (n := 600) (pc := 53) (by decide) rfl rfl (ix_in ha (by rw [sc_le] at hc44; omega)) (fm_dec dtX7_find 27 rfl) ?_
            have haE : aN < eN := (by rw [sc_le] at hc44; omega)
            have hbb := hB aN (by omega)
            have hcl := ch_lt i5 hi i hil
            have hcc : (nI i).toNatClampNeg = i := hii
            have byE : M.1 2 a.toNatClampNeg = chE i5 (nI i).toNatClampNeg ↔ tx aN = (chE i5 i).toInt := (by rw [hcc, i32_cl ha, ← hbb.1.eq hbb.2 hcl.1 hcl.2]; exact ⟨fun h9 => by rw [h9], fun h9 => i32_ext h9⟩)
            refine pv_iload (pc := 54) (i := 8) rfl (fm_dec dtX7_find 28 rfl) ?_
            refine pv_icmp_ne (pc := 56) 63 (by decide) (fm_dec dtX7_find 29 rfl) (fun hc56 => ?_) (fun hc56 => ?_)
            · refine pv_iconst (pc := 63) (v := 0) (by decide) (fm_dec dtX7_find 32 rfl) ?_
              refine pv_istore (pc := 64) (i := 6) (by decide) rfl (fm_dec dtX7_find 33 rfl) ?_
              dsimp only [List.set_cons_zero, List.set_cons_succ]
              refine pv_iincc (pc := 66) 5 1 (by decide) rfl (by decide) rfl (fm_dec dtX7_find 34 rfl) ?_
              dsimp only [List.set_cons_zero, List.set_cons_succ]
              refine pv_goto (pc := 69) 95 (by decide) (fm_dec dtX7_find 35 rfl) ?_
              refine pv_iincc (pc := 95) 7 1 (by decide) rfl (by decide) rfl (fm_dec dtX7_find 48 rfl) ?_
              dsimp only [List.set_cons_zero, List.set_cons_succ]
              refine pv_goto (pc := 98) 12 (by decide) (fm_dec dtX7_find 49 rfl) ?_
              have eF : fndF tx sN eN ((chs i5).drop i) wN aN bb = fndF tx sN eN ((chs i5).drop (i + 1)) wN (aN + 1) false := (by rw [chs_dr hil]; show (if (chE i5 i).toInt = 32 then _ else fndF tx sN eN ((chs i5).drop (i + 1)) wN (aN + 1) (bb && decide (aN < eN) && decide (tx aN = (chE i5 i).toInt))) = _; rw [if_neg (fun h9 => hc33 (by rw [hii]; exact i32_ext (h9.trans (by decide))))]; congr 1; rw [decide_eq_false (fun h9 => hc56 (byE.mpr h9)), Bool.and_false])
              rw [nI_succ1]
              exact ih (fmLen.getD i5 0 - (i + 1)) (by omega) (i + 1) wN (aN + 1) false _ _ _ _ rfl (by omega) hw (i32_p1 ha (by omega)) rfl (by omega) (by omega) (by rw [← eF]; exact hq)
            · refine pv_iconst (pc := 59) (v := 1) (by decide) (fm_dec dtX7_find 30 rfl) ?_
              refine pv_goto (pc := 60) 64 (by decide) (fm_dec dtX7_find 31 rfl) ?_
              refine pv_istore (pc := 64) (i := 6) (by decide) rfl (fm_dec dtX7_find 33 rfl) ?_
              dsimp only [List.set_cons_zero, List.set_cons_succ]
              refine pv_iincc (pc := 66) 5 1 (by decide) rfl (by decide) rfl (fm_dec dtX7_find 34 rfl) ?_
              dsimp only [List.set_cons_zero, List.set_cons_succ]
              refine pv_goto (pc := 69) 95 (by decide) (fm_dec dtX7_find 35 rfl) ?_
              refine pv_iincc (pc := 95) 7 1 (by decide) rfl (by decide) rfl (fm_dec dtX7_find 48 rfl) ?_
              dsimp only [List.set_cons_zero, List.set_cons_succ]
              refine pv_goto (pc := 98) 12 (by decide) (fm_dec dtX7_find 49 rfl) ?_
              have hb1 : bb = true := (by cases bb with | true => rfl | false => exact absurd hb hc38)
              have eF : fndF tx sN eN ((chs i5).drop i) wN aN bb = fndF tx sN eN ((chs i5).drop (i + 1)) wN (aN + 1) true := (by rw [chs_dr hil]; show (if (chE i5 i).toInt = 32 then _ else fndF tx sN eN ((chs i5).drop (i + 1)) wN (aN + 1) (bb && decide (aN < eN) && decide (tx aN = (chE i5 i).toInt))) = _; rw [if_neg (fun h9 => hc33 (by rw [hii]; exact i32_ext (h9.trans (by decide))))]; congr 1; rw [hb1, decide_eq_true haE, decide_eq_true (byE.mp hc56)]; rfl)
              rw [nI_succ1]
              exact ih (fmLen.getD i5 0 - (i + 1)) (by omega) (i + 1) wN (aN + 1) true _ _ _ _ rfl (by omega) hw (i32_p1 ha (by omega)) rfl (by omega) (by omega) (by rw [← eF]; exact hq)
set_option maxRecDepth 20000 in
theorem c_xfind {M : fmM} {Q : fmR → fmM → Prop} {tx : tX} {n i5 sN eN : Nat} {s e : Int32} (hi : i5 < 5) (hn : n ≤ 600) (hs : s.toInt = (sN : Int)) (he : e.toInt = (eN : Int)) (hen : eN ≤ n) (hse : sN ≤ eN) (hB : ∀ j, j < n → bt (M.1 2 j) (tx j) ∧ tx j ≤ 255) (hq : Q (.inl (some (.int (fdR (fndF tx sN eN (chs i5) 0 sN true))))) M) : pvGood Tx 4 qX7_find [.ref 1, .ref (1000 + i5), .int s, .int e] M Q := by
  refine pvGood_of (Nat.le_of_ble_eq_true rfl) ?_
  show pvEv Tx 4 qX7_find 0 [some (.ref 1), some (.ref (1000 + i5)), some (.int s), some (.int e), none, none, none, none, none] [] M Q
  refine pv_iconst (pc := 0) (v := 0) (by decide) (fm_dec dtX7_find 0 rfl) ?_
  refine pv_istore (pc := 1) (i := 4) (by decide) rfl (fm_dec dtX7_find 1 rfl) ?_
  dsimp only [List.set_cons_zero, List.set_cons_succ]
  refine pv_iloadn (pc := 3) (n := 2) 2 rfl rfl (fm_dec dtX7_find 2 rfl) ?_
  refine pv_istore (pc := 4) (i := 5) (by decide) rfl (fm_dec dtX7_find 3 rfl) ?_
  dsimp only [List.set_cons_zero, List.set_cons_succ]
  refine pv_iconst (pc := 6) (v := 1) (by decide) (fm_dec dtX7_find 4 rfl) ?_
  refine pv_istore (pc := 7) (i := 6) (by decide) rfl (fm_dec dtX7_find 5 rfl) ?_
  dsimp only [List.set_cons_zero, List.set_cons_succ]
  refine pv_iconst (pc := 9) (v := 0) (by decide) (fm_dec dtX7_find 6 rfl) ?_
  refine pv_istore (pc := 10) (i := 7) (by decide) rfl (fm_dec dtX7_find 7 rfl) ?_
  dsimp only [List.set_cons_zero, List.set_cons_succ]
  exact fd_loop hi hn hs he hen hse hB _ 0 0 sN true _ _ _ _ rfl (Nat.zero_le _) (by decide) hs rfl (by omega) (by omega) hq
theorem wdI_lt {u : List Int} : ∀ (ws : List (List Int)) (k j : Nat), wdI ws u k = some j → k ≤ j ∧ j < k + ws.length
  | [], k, j, h => by cases h
  | w :: ws, k, j, h => by
    simp only [wdI] at h
    split at h
    · cases h
      exact ⟨Nat.le_refl _, by rw [List.length_cons]; omega⟩
    · have h9 := wdI_lt ws (k + 1) j h
      rw [List.length_cons]
      omega
set_option maxRecDepth 20000 in
theorem xw_loop {Q : fmR → fmM → Prop} {tx : tX} {n p i5 : Nat} {M : fmM} {s : Int32} (hS : xS2 M tx n p) : ∀ (m : Nat) (q : Nat) (e : Int32) (v4 : Option Value), e.toInt = (q : Int) → q ≤ n → n - q = m → (∀ (x : Int32) (v : Option Value), x.toInt = sp tW tx q → pvEv Tx 5 qX7_takeWord 43 [some (.ref 1), some (.ref (1000 + i5)), some (.int s), some (.int x), v] [] M Q) → pvEv Tx 5 qX7_takeWord 7 [some (.ref 1), some (.ref (1000 + i5)), some (.int s), some (.int e), v4] [] M Q := by
  intro m
  induction m using Nat.strongRecOn with
  | _ m ih =>
    intro q e v4 hE hqn0 hm hq
    refine pv_iloadn (pc := 7) (n := 3) 3 rfl rfl (fm_dec dtX7_takeWord 5 rfl) ?_
    refine pv_aloadn (pc := 8) (n := 0) 0 rfl rfl (fm_dec dtX7_takeWord 6 rfl) ?_
    refine pv_getI (k := 1) (j := 2) (ci := 7) (pc := 9) pfl_X7_22 (by decide) rfl (by decide) (fm_dec dtX7_takeWord 7 rfl) ?_
    refine pv_icmp_ge (pc := 12) 43 (by decide) (fm_dec dtX7_takeWord 8 rfl) (fun hc12 => ?_) (fun hc12 => ?_)
    · have hW : tW (tx q) = false := (by have h9 := hc12; rw [sc_le] at h9; have := hS.1; have e9 : q = n := (by omega); subst e9; rw [hS.2.2.2.1.2.1 q (Nat.le_refl _)]; exact tW_1)
      exact hq e _ (by rw [sp_f hW]; exact hE)
    · have hqn : q < n := (by have h9 := hc12; rw [sc_le] at h9; have := hS.1; omega)
      have hn6 := hS.2.2.2.1.1
      refine pv_aloadn (pc := 15) (n := 0) 0 rfl rfl (fm_dec dtX7_takeWord 9 rfl) ?_
      refine pv_getR (k := 1) (j := 0) (ci := 7) (pc := 16) 2 rfl (by decide) pfl_X7_9 (by decide) rfl (by decide) (fm_dec dtX7_takeWord 10 rfl) ?_
      refine pv_iloadn (pc := 19) (n := 3) 3 rfl rfl (fm_dec dtX7_takeWord 11 rfl) ?_
      refine pv_bald (k := 2) (n := 600) (pc := 20) (by decide) rfl rfl (ix_in hE (by omega)) (fm_dec dtX7_takeWord 12 rfl) ?_
      refine pv_bipush (pc := 21) (v := 97) (by decide) (fm_dec dtX7_takeWord 13 rfl) ?_
      refine pv_icmp_lt (pc := 23) 43 (by decide) (fm_dec dtX7_takeWord 14 rfl) (fun hc23 => ?_) (fun hc23 => ?_)
      · have hW : tW (tx q) = false := (by have hbb := hS.2.2.2.2 q hqn; have h255 := hS.2.2.2.1.2.2 q hqn; rw [hbb.W h255.2, ← i32_cl hE]; exact tW_f (Or.inl hc23))
        exact hq e _ (by rw [sp_f hW]; exact hE)
      · refine pv_aloadn (pc := 26) (n := 0) 0 rfl rfl (fm_dec dtX7_takeWord 15 rfl) ?_
        refine pv_getR (k := 1) (j := 0) (ci := 7) (pc := 27) 2 rfl (by decide) pfl_X7_9 (by decide) rfl (by decide) (fm_dec dtX7_takeWord 16 rfl) ?_
        refine pv_iloadn (pc := 30) (n := 3) 3 rfl rfl (fm_dec dtX7_takeWord 17 rfl) ?_
        refine pv_bald (k := 2) (n := 600) (pc := 31) (by decide) rfl rfl (ix_in hE (by omega)) (fm_dec dtX7_takeWord 18 rfl) ?_
        refine pv_bipush (pc := 32) (v := 122) (by decide) (fm_dec dtX7_takeWord 19 rfl) ?_
        refine pv_icmp_gt (pc := 34) 43 (by decide) (fm_dec dtX7_takeWord 20 rfl) (fun hc34 => ?_) (fun hc34 => ?_)
        · have hW : tW (tx q) = false := (by have hbb := hS.2.2.2.2 q hqn; have h255 := hS.2.2.2.1.2.2 q hqn; rw [hbb.W h255.2, ← i32_cl hE]; exact tW_f (Or.inr hc34))
          exact hq e _ (by rw [sp_f hW]; exact hE)
        · refine pv_iincc (pc := 37) 3 1 (by decide) rfl (by decide) rfl (fm_dec dtX7_takeWord 21 rfl) ?_
          dsimp only [List.set_cons_zero, List.set_cons_succ]
          refine pv_goto (pc := 40) 7 (by decide) (fm_dec dtX7_takeWord 22 rfl) ?_
          have hW : tW (tx q) = true := (by have hbb := hS.2.2.2.2 q hqn; have h255 := hS.2.2.2.1.2.2 q hqn; rw [hbb.W h255.2, ← i32_cl hE]; exact tW_t hc23 hc34)
          refine ih (n - (q + 1)) (by omega) (q + 1) _ _ (i32_p1 hE (by omega)) (by omega) rfl (fun x v hx => hq x v (by rw [sp_t (by omega) hW]; exact hx))
set_option maxRecDepth 20000 in
theorem x_word {M : fmM} {Q : fmR → fmM → Prop} {tx : tX} {n p i5 : Nat} {ws : List (List Int)} (hi : i5 < 5) (hch : chs i5 = flat1 ws) (hws : ∀ u ∈ ws, ∀ c ∈ u, ¬ c = 32) (hl : ws.length ≤ 10) (hS : xS2 M tx n p) (hf : M.1 1 4 = 0) (hI : scInv Tx invX M) (hok : ∀ (M' : fmM) (j : Nat) (w : Int32), wdI ws (wd tx (sk tx p)) 0 = some j → w.toInt = (j : Int) → xdOk M M' tx n (sp tW tx (sk tx p)) → Q (.inl (some (.int w))) M') (hbad : wdI ws (wd tx (sk tx p)) 0 = none → ∀ M' : fmM, xdBad M M' 1 (sk tx p) → Q (.inl (some (.int (-1)))) M') : pvGood Tx 5 qX7_takeWord [.ref 1, .ref (1000 + i5)] M Q := by
  refine pvGood_of (Nat.le_of_ble_eq_true rfl) ?_
  show pvEv Tx 5 qX7_takeWord 0 [some (.ref 1), some (.ref (1000 + i5)), none, none, none] [] M Q
  refine pv_aloadn (pc := 0) (n := 0) 0 rfl rfl (fm_dec dtX7_takeWord 0 rfl) ?_
  refine pv_invV0 (k := 1) (d' := 1) (pc := 1) pcv_X7_39 (by decide) rfl (Nat.le_of_ble_eq_true rfl) (by decide) (fm_dec dtX7_takeWord 1 rfl) ?_
  refine c_xnext hS (fun x1 hx1 => ?_)
  refine pv_then1 ?_
  refine pv_istoren (pc := 4) (n := 2) 2 rfl (by decide) rfl (fm_dec dtX7_takeWord 2 rfl) ?_
  dsimp only [List.set_cons_zero, List.set_cons_succ]
  refine pv_iloadn (pc := 5) (n := 2) 2 rfl rfl (fm_dec dtX7_takeWord 3 rfl) ?_
  refine pv_istoren (pc := 6) (n := 3) 3 rfl (by decide) rfl (fm_dec dtX7_takeWord 4 rfl) ?_
  dsimp only [List.set_cons_zero, List.set_cons_succ]
  have hsk : sk tx p ≤ n := (sp_le tB_1 hS.2.2.2.1 hS.2.2.1)
  have hsw : sp tW tx (sk tx p) ≤ n := sp_le tW_1 hS.2.2.2.1 hsk
  refine xw_loop (hS.bl hx1) _ (sk tx p) _ _ hx1 hsk rfl (fun x43 v43 hx43 => ?_)
  refine pv_aloadn (pc := 43) (n := 0) 0 rfl rfl (fm_dec dtX7_takeWord 23 rfl) ?_
  refine pv_aloadn (pc := 44) (n := 1) 1 rfl rfl (fm_dec dtX7_takeWord 24 rfl) ?_
  refine pv_iloadn (pc := 45) (n := 2) 2 rfl rfl (fm_dec dtX7_takeWord 25 rfl) ?_
  refine pv_iloadn (pc := 46) (n := 3) 3 rfl rfl (fm_dec dtX7_takeWord 26 rfl) ?_
  refine pv_invV3 (k := 1) (d' := 4) (pc := 47) pcv_X7_49 (by decide) rfl (Nat.le_of_ble_eq_true rfl) (by decide) (fm_dec dtX7_takeWord 27 rfl) ?_
  refine c_xfind hi hS.2.2.2.1.1 hx1 hx43 hsw (sp_ge _) (fun j hj => ⟨hS.2.2.2.2 j hj, (hS.2.2.2.1.2.2 j hj).2⟩) ?_ 
  refine pv_then1 ?_
  rw [hch, fnd_all hS.2.2.2.1 (sp_ge _) hsw rfl ws 0 hws]
  cases hw9 : wdI ws (wd tx (sk tx p)) 0 with
  | none =>
    show pvEv Tx 5 qX7_takeWord (47 + 3) [some (.ref 1), some (.ref (1000 + i5)), some (.int x1), some (.int x43), v43] [.int (-1)] (fmI M 1 3 x1) Q
    refine pv_istore (pc := 50) (i := 4) (by decide) rfl (fm_dec dtX7_takeWord 28 rfl) ?_
    dsimp only [List.set_cons_zero, List.set_cons_succ]
    refine pv_iload (pc := 52) (i := 4) rfl (fm_dec dtX7_takeWord 29 rfl) ?_
    refine pv_iconst (pc := 54) (v := (-1)) (by decide) (fm_dec dtX7_takeWord 30 rfl) ?_
    refine pv_icmp_ne (pc := 55) 67 (by decide) (fm_dec dtX7_takeWord 31 rfl) (fun hc55 => by exfalso; revert hc55; decide) (fun _ => ?_)
    refine pv_aloadn (pc := 58) (n := 0) 0 rfl rfl (fm_dec dtX7_takeWord 32 rfl) ?_
    refine pv_iconst (pc := 59) (v := 1) (by decide) (fm_dec dtX7_takeWord 33 rfl) ?_
    refine pv_iloadn (pc := 60) (n := 2) 2 rfl rfl (fm_dec dtX7_takeWord 34 rfl) ?_
    refine pv_invV2 (k := 1) (d' := 0) (pc := 61) pcv_X7_35 (by decide) rfl (Nat.le_of_ble_eq_true rfl) (by decide) (fm_dec dtX7_takeWord 35 rfl) ?_
    refine c_xfail0 hf ?_
    refine pv_then1 ?_
    refine pv_pop (pc := 64) rfl (fm_dec dtX7_takeWord 36 rfl) ?_
    refine pv_iconst (pc := 65) (v := (-1)) (by decide) (fm_dec dtX7_takeWord 37 rfl) ?_
    exact pv_ireturn (pc := 66) rfl (fm_dec dtX7_takeWord 38 rfl) (hbad hw9 _ (xdBad.at hS hI hx1 hsk (by decide) (by decide) (by decide) hx1 hsk))
  | some j =>
    have hj := wdI_lt ws 0 j hw9
    have ej : (nI j).toInt = (j : Int) := nI_toInt (by omega)
    show pvEv Tx 5 qX7_takeWord (47 + 3) [some (.ref 1), some (.ref (1000 + i5)), some (.int x1), some (.int x43), v43] [.int (nI j)] (fmI M 1 3 x1) Q
    refine pv_istore (pc := 50) (i := 4) (by decide) rfl (fm_dec dtX7_takeWord 28 rfl) ?_
    dsimp only [List.set_cons_zero, List.set_cons_succ]
    refine pv_iload (pc := 52) (i := 4) rfl (fm_dec dtX7_takeWord 29 rfl) ?_
    refine pv_iconst (pc := 54) (v := (-1)) (by decide) (fm_dec dtX7_takeWord 30 rfl) ?_
    refine pv_icmp_ne (pc := 55) 67 (by decide) (fm_dec dtX7_takeWord 31 rfl) (fun _ => ?_) (fun hc55 => by exfalso; have h9 := congrArg Int32.toInt hc55; have h8 : (-1 : Int32).toInt = -1 := (by decide); omega)
    refine pv_aloadn (pc := 67) (n := 0) 0 rfl rfl (fm_dec dtX7_takeWord 39 rfl) ?_
    refine pv_iloadn (pc := 68) (n := 3) 3 rfl rfl (fm_dec dtX7_takeWord 40 rfl) ?_
    refine pv_putI (k := 1) (j := 3) (ci := 7) (pc := 69) pfl_X7_25 (by decide) rfl (by decide) (fm_dec dtX7_takeWord 41 rfl) ?_
    refine pv_iload (pc := 72) (i := 4) rfl (fm_dec dtX7_takeWord 42 rfl) ?_
    exact pv_ireturn (pc := 74) rfl (fm_dec dtX7_takeWord 43 rfl) (by rw [fmI_fmI]; exact hok _ j (nI j) hw9 ej (xdOk.at hS hf hI hx43 hsw))
def wsWork : List (List Int) := [[119, 114, 105, 116, 101], [114, 101, 110, 101, 119], [100, 105, 101], [119, 101, 101, 107], [97, 103, 97, 105, 110]]
def wsLaw : List (List Int) := [[97, 103, 101], [121, 101, 97, 114, 115], [119, 111, 114, 116, 104], [100, 101, 97, 100], [102, 97, 99, 116, 115], [108, 101, 97, 115, 116], [109, 111, 115, 116]]
def wsTold : List (List Int) := [[108, 105, 102, 101], [104, 97, 115], [98, 121], [102, 97, 99, 116], [104, 111, 117, 114, 115], [108, 97, 99, 107], [119, 114, 111, 110, 103], [104, 97, 108, 102]]
theorem chs_4 : chs 4 = flat1 wsWork := by decide +kernel
theorem chs_3 : chs 3 = flat1 wsLaw := by decide +kernel
theorem chs_2 : chs 2 = flat1 wsTold := by decide +kernel
theorem wsWork_ok : ∀ u ∈ wsWork, ∀ c ∈ u, ¬ c = 32 := by decide
theorem wsLaw_ok : ∀ u ∈ wsLaw, ∀ c ∈ u, ¬ c = 32 := by decide
theorem wsTold_ok : ∀ u ∈ wsTold, ∀ c ∈ u, ¬ c = 32 := by decide
theorem x_numC {M : fmM} {Q : fmR → fmM → Prop} {tx : tX} {n p : Nat} {lo hi : Int32} (a b : Int) (ea : lo.toInt = a) (eb : hi.toInt = b) (h9 : b < 1000000) (hS : xS2 M tx n p) (hf : M.1 1 4 = 0) (hI : scInv Tx invX M) (hok : ∀ (M' : fmM) (v q : Nat) (w : Int32), spNum tx a b p = .inr (v, q) → w.toInt = v → xdOk M M' tx n q → Q (.inl (some (.int w))) M') (hbad : ∀ (M' : fmM) (k a' : Nat), spNum tx a b p = .inl (k, a') → xdBad M M' k a' → Q (.inl (some (.int (-1)))) M') : pvGood Tx 2 qX7_takeNumber [.ref 1, .int lo, .int hi] M Q := by
  subst ea
  subst eb
  exact x_num h9 hS hf hI hok hbad
theorem x_signC {M : fmM} {Q : fmR → fmM → Prop} {tx : tX} {n p : Nat} {c : Int32} (a : Int) (ea : c.toInt = a) (hc : 0 ≤ a) (hS : xS2 M tx n p) (hf : M.1 1 4 = 0) (hI : scInv Tx invX M) (hok : ∀ (M' : fmM) (q : Nat), spSign tx a p = .inr ((), q) → xdOk M M' tx n q → Q (.inl (some (.int 1))) M') (hbad : ∀ (M' : fmM) (k a' : Nat), spSign tx a p = .inl (k, a') → xdBad M M' k a' → Q (.inl (some (.int 0))) M') : pvGood Tx 1 qX7_takeSign [.ref 1, .int c] M Q := by
  subst ea
  exact x_sign hc hS hf hI hok hbad
