-- P 18x
section
-- THE STATE, step after step
-- WORKS DONE, as they should be
/-- a state: week, hours, the dead as bits, lacked, ran, lost in 64ths; and how old each piece is, -1 for none -/
abbrev aS : Type := (Nat × Nat × Nat × Nat × Nat × Int) × (Nat → Int)
def cgS (D : dD) (li a b : Int) : Nat → Nat
  | 0 => 0
  | n + 1 => if D.2.2.2.1 n 0 = li ∧ a < D.2.2.2.1 n 2 ∧ D.2.2.2.1 n 2 ≤ b then cgS D li a b n + 1 else cgS D li a b n
theorem cg_le {D : dD} {li a b : Int} : ∀ n, cgS D li a b n ≤ n := by
  intro n
  induction n with
  | zero => exact Nat.le_refl _
  | succ n ih =>
    show (if D.2.2.2.1 n 0 = li ∧ a < D.2.2.2.1 n 2 ∧ D.2.2.2.1 n 2 ≤ b then cgS D li a b n + 1 else cgS D li a b n) ≤ n + 1
    split <;> omega
/-- how many facts of a life changed behind week a, up to week b -/
def cgA (D : dD) (li a b : Int) : Nat := cgS D li a b D.2.2.1
/-- 1 if who wrote it is dead -/
def sdA (D : dD) (dead i : Nat) : Nat := if D.2.1 i 5 < 0 then 0 else if dead.testBit (D.2.1 i 5).toNat then 1 else 0
/-- how wrong a piece of life i is that is so old in week w -/
def wrS (D : dD) (cs : tC) (dead w i age : Nat) : Int := (lwV cs (nI age) (nI ((D.2.1 i 0).toNat + w / 52)) (nI (D.2.1 i 2).toNat) (nI (sdA D dead i)) (nI (cgA D i ((w : Int) - age) w))).toInt
/-- what its death would lose now, in 64ths -/
def coS (D : dD) (cs : tC) (S : aS) (i : Nat) : Int := if S.2 i = -1 then 64 * D.2.2.2.2 3 * D.2.1 i 2 else D.2.2.2.2 4 * D.2.1 i 2 * wrS D cs S.1.2.2.1 S.1.1 i (S.2 i).toNat
def hoS (D : dD) (S : aS) (i : Nat) : Nat := if S.2 i = -1 then (D.2.1 i 3).toNat else max 1 ((D.2.1 i 3).toNat / (D.2.2.2.2 5).toNat)
/-- a piece is put now -/
def puS (D : dD) (S : aS) (i : Nat) : Option aS := if S.1.2.2.1.testBit i ∨ S.2 i = 0 ∨ S.1.2.1 < hoS D S i then none else some ((S.1.1, S.1.2.1 - hoS D S i, S.1.2.2), fun j => if j = i then 0 else S.2 j)
def diS (D : dD) (cs : tC) (S : aS) (i : Nat) : Option aS := if S.1.2.2.1.testBit i then none else if S.2 i = -1 then some ((S.1.1, S.1.2.1 - 2, S.1.2.2.1 ||| 1 <<< i, S.1.2.2.2.1 + 1, S.1.2.2.2.2.1, S.1.2.2.2.2.2 + coS D cs S i), S.2) else some ((S.1.1, S.1.2.1, S.1.2.2.1 ||| 1 <<< i, S.1.2.2.2.1, S.1.2.2.2.2.1 + 1, S.1.2.2.2.2.2 + coS D cs S i), fun j => if j = i then -1 else S.2 j)
def weS (D : dD) (S : aS) : Option aS := if S.1.1 = 200 then none else some ((S.1.1 + 1, (D.2.2.2.2 2).toNat, S.1.2.2), fun j => if S.2 j = -1 then -1 else S.2 j + 1)
def doS (D : dD) (cs : tC) (S : aS) (k i : Nat) : Option aS := match k with
  | 0 => if S.2 i = -1 then puS D S i else none
  | 1 => if S.2 i = -1 then none else puS D S i
  | 2 => diS D cs S i
  | _ => weS D S
/-- a state under way: begun, done, refused -/
abbrev gR : Type := aS × Nat × Nat × Nat
def oneR (D : dD) (cs : tC) (R : gR) (k i : Nat) : gR := match doS D cs R.1 k i with
  | some S => (S, R.2.1 + 1, R.2.2.1 + 1, R.2.2.2)
  | none => (R.1, R.2.1 + 1, R.2.2.1, R.2.2.2 + 1)
def loR (F : gR → gR) : Nat → gR → gR
  | 0, R => R
  | n + 1, R => if R.2.1 < 200 then loR F n (F R) else R
/-- the steps l, that stand from place a on, are done -/
def goL (D : dD) (cs : tC) : Nat → Nat → tS → gR → gR
  | 0, _, _, R => R
  | _ + 1, _, [], R => R
  | f + 1, a, s :: r, R => if R.2.1 < 200 then (if s.1 = 4 then goL D cs f s.2.2 (r.drop (s.2.2 - (a + 1))) (loR (goL D cs f (a + 1) (r.take (s.2.2 - (a + 1)))) s.2.1 (R.1, R.2.1 + 1, R.2.2)) else goL D cs f (a + 1) r (oneR D cs R s.1 s.2.1)) else R
/-- well nested: d more brackets may be begun -/
def wnL : Nat → Nat → Nat → tS → Prop
  | _, _, _, [] => True
  | 0, _, _, _ :: _ => False
  | f + 1, d, a, s :: r => if s.1 = 4 then 0 < d ∧ a + 1 ≤ s.2.2 ∧ s.2.2 ≤ a + 1 + r.length ∧ wnL f (d - 1) (a + 1) (r.take (s.2.2 - (a + 1))) ∧ wnL f d s.2.2 (r.drop (s.2.2 - (a + 1))) else s.1 < 4 ∧ s.2.2 = a + 1 ∧ wnL f d (a + 1) r
theorem wn_up : ∀ (f g d a : Nat) (l : tS), f ≤ g → wnL f d a l → wnL g d a l := by
  intro f
  induction f with
  | zero =>
    intro g d a l hg h
    cases l with
    | nil => cases g <;> trivial
    | cons s r => exact absurd h (by intro h; exact h)
  | succ f ih =>
    intro g d a l hg h
    obtain ⟨g, rfl⟩ : ∃ g', g = g' + 1 := ⟨g - 1, by omega⟩
    cases l with
    | nil => trivial
    | cons s r =>
      unfold wnL at h ⊢
      split at h
      · rename_i h4
        rw [if_pos h4]
        exact ⟨h.1, h.2.1, h.2.2.1, ih g _ _ _ (by omega) h.2.2.2.1, ih g _ _ _ (by omega) h.2.2.2.2⟩
      · rename_i h4
        rw [if_neg h4]
        exact ⟨h.1, h.2.1, ih g _ _ _ (by omega) h.2.2⟩
theorem wn_app : ∀ (f g d a : Nat) (l m : tS), wnL f d a l → wnL g d (a + l.length) m → wnL (f + g) d a (l ++ m) := by
  intro f
  induction f with
  | zero =>
    intro g d a l m hl hm
    cases l with
    | nil => exact wn_up _ _ _ _ _ (by omega) hm
    | cons s r => exact absurd hl (by intro h; exact h)
  | succ f ih =>
    intro g d a l m hl hm
    cases l with
    | nil => exact wn_up _ _ _ _ _ (by omega) hm
    | cons s r =>
      rw [show f + 1 + g = (f + g) + 1 by omega]
      show wnL ((f + g) + 1) d a (s :: (r ++ m))
      rw [List.length_cons] at hm
      unfold wnL at hl ⊢
      split at hl
      · rename_i h4
        rw [if_pos h4]
        obtain ⟨h0, h1, h2, h3, h5⟩ := hl
        have hn : s.2.2 - (a + 1) ≤ r.length := by omega
        refine ⟨h0, h1, by rw [List.length_append]; omega, ?_, ?_⟩
        · rw [List.take_append_of_le_length hn]
          exact wn_up _ _ _ _ _ (by omega) h3
        · rw [List.drop_append_of_le_length hn]
          exact ih g d s.2.2 _ m h5 (by rw [List.length_drop, show s.2.2 + (r.length - (s.2.2 - (a + 1))) = a + (r.length + 1) by omega]; exact hm)
      · rename_i h4
        rw [if_neg h4]
        exact ⟨hl.1, hl.2.1, ih g d (a + 1) r m hl.2.2 (by rw [show a + 1 + r.length = a + (r.length + 1) by omega]; exact hm)⟩
/-- what is read is well nested -/
theorem spSt_wn {tx : tX} {l : Nat} : ∀ (f md o b p : Nat) (ss : tS) (q : Nat), o ≤ 6 → spSt tx l f md o b p = .inr (ss, q) → ∃ g, wnL g (6 - o) b ss := by
  intro f
  induction f with
  | zero => intro md o b p ss q _ h; cases md <;> cases h
  | succ f ih =>
    intro md o b p ss q ho h
    cases md with
    | zero =>
      have h : spOneS tx l (fun q => spSt tx l f 1 (o + 1) (b + 1) q) o b p = .inr (ss, q) := h
      unfold spOneS at h
      split at h
      · cases h
      · rename_i k hk
        have hk4 := (stK_ne hk).2
        split at h
        · split at h
          · cases h
          · rename_i h6
            obtain ⟨v, q1, e1, h⟩ := spBind_ok h
            obtain ⟨u2, q2, e2, h⟩ := spBind_ok h
            obtain ⟨s3, q3, e3, h⟩ := spBind_ok h
            obtain ⟨u4, q4, e4, h⟩ := spBind_ok h
            obtain ⟨u5, q5, e5, h⟩ := spBind_ok h
            cases h
            obtain ⟨g, hg⟩ := ih _ _ _ _ _ _ (by omega) e3
            refine ⟨g + 1, ?_⟩
            unfold wnL
            rw [if_pos rfl]
            show 0 < 6 - o ∧ b + 1 ≤ b + 1 + s3.length ∧ b + 1 + s3.length ≤ b + 1 + s3.length ∧ wnL g (6 - o - 1) (b + 1) (s3.take (b + 1 + s3.length - (b + 1))) ∧ wnL g (6 - o) (b + 1 + s3.length) (s3.drop (b + 1 + s3.length - (b + 1)))
            rw [show b + 1 + s3.length - (b + 1) = s3.length by omega, List.take_length, List.drop_length, show 6 - o - 1 = 6 - (o + 1) by omega]
            exact ⟨by omega, by omega, Nat.le_refl _, hg, by cases g <;> trivial⟩
        · split at h
          · unfold spWk at h
            obtain ⟨u2, q2, e2, h⟩ := spBind_ok h
            cases h
            refine ⟨1, ?_⟩
            unfold wnL
            rw [if_neg (show ¬ (3 : Nat) = 4 by decide)]
            exact ⟨(by show (3 : Nat) < 4; decide), rfl, trivial⟩
          · rename_i h4 h3
            unfold spSi at h
            obtain ⟨v, q1, e1, h⟩ := spBind_ok h
            obtain ⟨u2, q2, e2, h⟩ := spBind_ok h
            cases h
            refine ⟨1, ?_⟩
            unfold wnL
            rw [if_neg (show ¬ k = 4 from h4)]
            exact ⟨by omega, rfl, trivial⟩
    | succ md =>
      have h : (if tx p = 93 then .inr ([], p) else spBind (spSt tx l f 0 o b p) fun ss q => spBind (spSt tx l f 1 o (b + ss.length) (sk tx q)) fun ts q => .inr (ss ++ ts, q)) = (.inr (ss, q) : tR tS) := h
      split at h
      · cases h
        exact ⟨0, trivial⟩
      · obtain ⟨s1, q1, e1, h⟩ := spBind_ok h
        obtain ⟨s2, q2, e2, h⟩ := spBind_ok h
        cases h
        obtain ⟨g1, hg1⟩ := ih _ _ _ _ _ _ ho e1
        obtain ⟨g2, hg2⟩ := ih _ _ _ _ _ _ ho e2
        exact ⟨g1 + g2, wn_app _ _ _ _ _ _ hg1 hg2⟩
theorem wkL_wn {tx : tX} {n l : Nat} : ∀ (f b p : Nat) (ss : tS), wkL tx n l f b p = .inr ss → ∃ g, wnL g 6 b ss := by
  intro f
  induction f with
  | zero => intro b p ss h; cases h
  | succ f ih =>
    intro b p ss h
    simp only [wkL] at h
    split at h
    · cases h
      exact ⟨0, trivial⟩
    · split at h
      · cases h
      · rename_i s1 q1 e1
        split at h
        · cases h
        · rename_i s2 e2
          cases h
          obtain ⟨g1, hg1⟩ := spSt_wn 400 0 0 b p s1 q1 (by decide) e1
          obtain ⟨g2, hg2⟩ := ih _ _ _ e2
          exact ⟨g1 + g2, wn_app _ _ _ _ _ _ hg1 hg2⟩
theorem spWork_wn {tx : tX} {n l : Nat} {ss : tS} (h : spWork tx n l = .inr ss) : ∃ g, wnL g 6 0 ss := wkL_wn 700 0 (sk tx 0) ss h
/-- a state as it stands here -/
def xst (M : fmM) (D : dD) (S : aS) : Prop := (M.1 47 1).toInt = (S.1.2.2.1 : Int) ∧ (M.1 47 2).toInt = (S.1.1 : Int) ∧ (M.1 47 3).toInt = (S.1.2.1 : Int) ∧ (M.1 47 4).toInt = (S.1.2.2.2.1 : Int) ∧ (M.1 47 5).toInt = (S.1.2.2.2.2.1 : Int) ∧ (M.2 47 6).toInt = S.1.2.2.2.2.2 ∧ ∀ i, i < D.1 → (M.1 48 i).toInt = S.2 i
/-- how a state can be -/
def stO (D : dD) (S : aS) : Prop := S.1.1 ≤ 200 ∧ S.1.2.1 ≤ 12 ∧ S.1.2.2.1 < 256 ∧ S.1.2.2.2.1 + S.1.2.2.2.2.1 = pop8 S.1.2.2.1 ∧ 0 ≤ S.1.2.2.2.2.2 ∧ S.1.2.2.2.2.2 ≤ 57024 * (pop8 S.1.2.2.1 : Int) ∧ (∀ i, i < D.1 → -1 ≤ S.2 i ∧ S.2 i ≤ (S.1.1 : Int) + 40) ∧ S.1.2.2.1 < 2 ^ D.1
theorem xst.of {M M' : fmM} {D : dD} {S : aS} (h : xst M D S) (hk : ∀ k j, k = 47 ∨ k = 48 → M'.1 k j = M.1 k j) (h2 : M'.2 47 6 = M.2 47 6) : xst M' D S := by
  obtain ⟨a, b, c, d, e, f, g⟩ := h
  exact ⟨by rw [hk _ _ (Or.inl rfl)]; exact a, by rw [hk _ _ (Or.inl rfl)]; exact b, by rw [hk _ _ (Or.inl rfl)]; exact c, by rw [hk _ _ (Or.inl rfl)]; exact d, by rw [hk _ _ (Or.inl rfl)]; exact e, by rw [h2]; exact f, fun i hi => by rw [hk _ _ (Or.inr rfl)]; exact g i hi⟩
theorem has8b : ∀ w, w < 256 → ∀ k, k < 8 → (nI w >>> (nI k &&& 31) &&& 1) = bI (w.testBit k) := by decide +kernel
set_option maxRecDepth 20000 in
theorem c_xaliv {M : fmM} {Q : fmR → fmM → Prop} {D : dD} {S : aS} {i : Nat} (hs : xst M D S) (ho : stO D S) (hi8 : i < 8) (hq : Q (.inl (some (.int (bI (!S.1.2.2.1.testBit i))))) M) : pvGood Tx 0 qX6_isAlive [.ref 47, .int (nI i)] M Q := by
  refine pvGood_of (Nat.le_of_ble_eq_true rfl) ?_
  show pvEv Tx 0 qX6_isAlive 0 [some (.ref 47), some (.int (nI i))] [] M Q
  have e1 : M.1 47 1 = nI S.1.2.2.1 := nI_is hs.1 (by have := ho.2.2.1; omega)
  have eb := has8b S.1.2.2.1 ho.2.2.1 i hi8
  rw [← e1] at eb
  refine pv_aloadn (pc := 0) (n := 0) 0 rfl rfl (fm_dec dtX6_isAlive 0 rfl) ?_
  refine pv_getI (k := 47) (j := 1) (ci := 6) (pc := 1) pfl_X6_26 (by decide) rfl (by decide) (fm_dec dtX6_isAlive 1 rfl) ?_
  refine pv_iloadn (pc := 4) (n := 1) 1 rfl rfl (fm_dec dtX6_isAlive 2 rfl) ?_
  refine pv_ishr (pc := 5) (fm_dec dtX6_isAlive 3 rfl) ?_
  refine pv_iconst (pc := 6) (v := 1) (by decide) (fm_dec dtX6_isAlive 4 rfl) ?_
  refine pv_iand (pc := 7) (fm_dec dtX6_isAlive 5 rfl) ?_
  refine pv_if_ne (pc := 8) 15 (by decide) (fm_dec dtX6_isAlive 6 rfl) (fun hc8 => ?_) (fun hc8 => ?_)
  · refine pv_iconst (pc := 15) (v := 0) (by decide) (fm_dec dtX6_isAlive 9 rfl) ?_
    exact pv_zreturn (pc := 16) rfl (by first | exact Or.inr rfl | exact Or.inl rfl) (fm_dec dtX6_isAlive 10 rfl) (by have h9 := hq; cases ht : S.1.2.2.1.testBit i with | true => (rw [ht] at eb h9; first | exact h9 | exact absurd hc8 (by rw [eb]; decide) | exact absurd (show (M.1 47 1 >>> (nI i &&& 31) &&& 1) = 0 from hc8) (by rw [eb]; decide)) | false => (rw [ht] at eb h9; first | exact h9 | exact absurd hc8 (by rw [eb]; decide) | exact absurd eb hc8))
  · refine pv_iconst (pc := 11) (v := 1) (by decide) (fm_dec dtX6_isAlive 7 rfl) ?_
    refine pv_goto (pc := 12) 16 (by decide) (fm_dec dtX6_isAlive 8 rfl) ?_
    exact pv_zreturn (pc := 16) rfl (by first | exact Or.inr rfl | exact Or.inl rfl) (fm_dec dtX6_isAlive 10 rfl) (by have h9 := hq; cases ht : S.1.2.2.1.testBit i with | true => (rw [ht] at eb h9; first | exact h9 | exact absurd hc8 (by rw [eb]; decide) | exact absurd (show (M.1 47 1 >>> (nI i &&& 31) &&& 1) = 0 from hc8) (by rw [eb]; decide)) | false => (rw [ht] at eb h9; first | exact h9 | exact absurd hc8 (by rw [eb]; decide) | exact absurd eb hc8))
theorem dv_n {x z : Int32} {a b : Nat} (hx : x.toInt = (a : Int)) (hz : z.toInt = (b : Int)) (hb : 0 < b) (ha : a < 1000) : (x / z).toInt = ((a / b : Nat) : Int) := by
  rw [Int32.toInt_div, hx, hz, ← Int.ofNat_tdiv]
  refine Int.bmod_eq_of_le ?_ ?_
  · have : (0 : Int) ≤ ((a / b : Nat) : Int) := Int.natCast_nonneg _
    omega
  · have : a / b ≤ a := Nat.div_le_self a b
    omega
theorem mx_1 {x : Int32} {a : Nat} (hx : x.toInt = (a : Int)) : (pvMx true 1 x).toInt = ((max 1 a : Nat) : Int) := by
  have h1 : (1 : Int32).toInt = 1 := by decide
  show (if (1 : Int32).toInt ≤ x.toInt then x else 1).toInt = _
  split <;> omega
set_option maxRecDepth 20000 in
theorem c_xrenew {M : fmM} {Q : fmR → fmM → Prop} {D : dD} {i : Nat} (hD : dOk D) (hX : xdw 3 M D) (hi : i < D.1) (hq : ∀ r : Int32, r.toInt = ((max 1 ((D.2.1 i 3).toNat / (D.2.2.2.2 5).toNat) : Nat) : Int) → Q (.inl (some (.int r))) M) : pvGood Tx 1 qX8_renewHours [.ref 3, .int (nI i)] M Q := by
  refine pvGood_of (Nat.le_of_ble_eq_true rfl) ?_
  show pvEv Tx 1 qX8_renewHours 0 [some (.ref 3), some (.int (nI i)), none] [] M Q
  have d8 := hD.1
  have hi9 : (nI i).toInt = (i : Int) := nI_toInt (by omega)
  have b3 := (hD.2.2.1 i hi).2.2.2.1
  have b5 := hD.2.2.2.2.2.2.2
  have g5 : (M.1 3 14).toInt = D.2.2.2.2 5 := hX.1.2.2.2.2.2
  have g3 : (M.1 7 i).toInt = D.2.1 i 3 := hX.2.1 i hi 3 (by decide)
  have z0 : (0 : Int32).toInt = 0 := (by decide)
  refine pv_aloadn (pc := 0) (n := 0) 0 rfl rfl (fm_dec dtX8_renewHours 0 rfl) ?_
  refine pv_getI (k := 3) (j := 14) (ci := 8) (pc := 1) pfl_X8_58 (by decide) rfl (by decide) (fm_dec dtX8_renewHours 1 rfl) ?_
  refine pv_if_le (pc := 4) 14 (by decide) (fm_dec dtX8_renewHours 2 rfl) (fun hc4 => by exfalso; rw [sc_le] at hc4; omega) (fun _ => ?_)
  refine pv_aloadn (pc := 7) (n := 0) 0 rfl rfl (fm_dec dtX8_renewHours 3 rfl) ?_
  refine pv_getI (k := 3) (j := 14) (ci := 8) (pc := 8) pfl_X8_58 (by decide) rfl (by decide) (fm_dec dtX8_renewHours 4 rfl) ?_
  refine pv_goto (pc := 11) 15 (by decide) (fm_dec dtX8_renewHours 5 rfl) ?_
  refine pv_istoren (pc := 15) (n := 2) 2 rfl (by decide) rfl (fm_dec dtX8_renewHours 7 rfl) ?_
  dsimp only [List.set_cons_zero, List.set_cons_succ]
  refine pv_iconst (pc := 16) (v := 1) (by decide) (fm_dec dtX8_renewHours 8 rfl) ?_
  refine pv_aloadn (pc := 17) (n := 0) 0 rfl rfl (fm_dec dtX8_renewHours 9 rfl) ?_
  refine pv_getR (k := 3) (j := 3) (ci := 8) (pc := 18) 7 rfl (by decide) pfl_X8_21 (by decide) rfl (by decide) (fm_dec dtX8_renewHours 10 rfl) ?_
  refine pv_iloadn (pc := 21) (n := 1) 1 rfl rfl (fm_dec dtX8_renewHours 11 rfl) ?_
  refine pv_iald (k := 7) (n := 8) (pc := 22) (by decide) rfl rfl (ix_in hi9 (by omega)) (fm_dec dtX8_renewHours 12 rfl) ?_
  rw [i32_cl hi9]
  refine pv_iloadn (pc := 23) (n := 2) 2 rfl rfl (fm_dec dtX8_renewHours 13 rfl) ?_
  refine pv_idiv (pc := 24) (fun h9 => by have h8 := congrArg Int32.toInt h9; omega) (fm_dec dtX8_renewHours 14 rfl) ?_
  refine pv_mm (pc := 25) pmm_X8_121 (by decide) (Nat.le_of_ble_eq_true rfl) (fm_dec dtX8_renewHours 15 rfl) ?_
  exact pv_ireturn (pc := 28) rfl (fm_dec dtX8_renewHours 16 rfl) (hq _ (mx_1 (dv_n (by omega) (by omega) (by omega) (by omega))))
set_option maxRecDepth 20000 in
theorem c_xhours {M : fmM} {Q : fmR → fmM → Prop} {D : dD} {S : aS} {i : Nat} (hD : dOk D) (hX : xdw 3 M D) (hs : xst M D S) (hi : i < D.1) (hq : ∀ r : Int32, r.toInt = ((hoS D S i : Nat) : Int) → Q (.inl (some (.int r))) M) : pvGood Tx 2 qX0_hoursFor [.ref 32, .ref 47, .int (nI i)] M Q := by
  refine pvGood_of (Nat.le_of_ble_eq_true rfl) ?_
  show pvEv Tx 2 qX0_hoursFor 0 [some (.ref 32), some (.ref 47), some (.int (nI i))] [] M Q
  have d8 := hD.1
  have hi9 : (nI i).toInt = (i : Int) := nI_toInt (by omega)
  have g48 := hs.2.2.2.2.2.2 i hi
  have zm : (-1 : Int32).toInt = -1 := (by decide)
  have b3 := (hD.2.2.1 i hi).2.2.2.1
  have g3 : (M.1 7 i).toInt = D.2.1 i 3 := hX.2.1 i hi 3 (by decide)
  refine pv_aloadn (pc := 0) (n := 1) 1 rfl rfl (fm_dec dtX0_hoursFor 0 rfl) ?_
  refine pv_getR (k := 47) (j := 0) (ci := 6) (pc := 1) 48 rfl (by decide) pfl_X0_78 (by decide) rfl (by decide) (fm_dec dtX0_hoursFor 1 rfl) ?_
  refine pv_iloadn (pc := 4) (n := 2) 2 rfl rfl (fm_dec dtX0_hoursFor 2 rfl) ?_
  refine pv_iald (k := 48) (n := 8) (pc := 5) (by decide) rfl rfl (ix_in hi9 (by omega)) (fm_dec dtX0_hoursFor 3 rfl) ?_
  rw [i32_cl hi9]
  refine pv_iconst (pc := 6) (v := (-1)) (by decide) (fm_dec dtX0_hoursFor 4 rfl) ?_
  refine pv_icmp_ne (pc := 7) 22 (by decide) (fm_dec dtX0_hoursFor 5 rfl) (fun hc7 => ?_) (fun hc7 => ?_)
  · refine pv_aloadn (pc := 22) (n := 0) 0 rfl rfl (fm_dec dtX0_hoursFor 12 rfl) ?_
    refine pv_getR (k := 32) (j := 0) (ci := 0) (pc := 23) 3 rfl (by decide) pfl_X0_15 (by decide) rfl (by decide) (fm_dec dtX0_hoursFor 13 rfl) ?_
    refine pv_iloadn (pc := 26) (n := 2) 2 rfl rfl (fm_dec dtX0_hoursFor 14 rfl) ?_
    refine pv_invV1 (k := 3) (d' := 1) (pc := 27) pcv_X0_91 (by decide) rfl (Nat.le_of_ble_eq_true rfl) (by decide) (fm_dec dtX0_hoursFor 15 rfl) ?_
    refine c_xrenew hD hX hi (fun r27 h27 => ?_)
    refine pv_then1 ?_
    exact pv_ireturn (pc := 30) rfl (fm_dec dtX0_hoursFor 16 rfl) (hq r27 (by unfold hoS; rw [if_neg (by intro h9; apply hc7; exact i32_ext (by omega))]; exact h27))
  · refine pv_aloadn (pc := 10) (n := 0) 0 rfl rfl (fm_dec dtX0_hoursFor 6 rfl) ?_
    refine pv_getR (k := 32) (j := 0) (ci := 0) (pc := 11) 3 rfl (by decide) pfl_X0_15 (by decide) rfl (by decide) (fm_dec dtX0_hoursFor 7 rfl) ?_
    refine pv_getR (k := 3) (j := 3) (ci := 8) (pc := 14) 7 rfl (by decide) pfl_X0_88 (by decide) rfl (by decide) (fm_dec dtX0_hoursFor 8 rfl) ?_
    refine pv_iloadn (pc := 17) (n := 2) 2 rfl rfl (fm_dec dtX0_hoursFor 9 rfl) ?_
    refine pv_iald (k := 7) (n := 8) (pc := 18) (by decide) rfl rfl (ix_in hi9 (by omega)) (fm_dec dtX0_hoursFor 10 rfl) ?_
    rw [i32_cl hi9]
    refine pv_goto (pc := 19) 30 (by decide) (fm_dec dtX0_hoursFor 11 rfl) ?_
    exact pv_ireturn (pc := 30) rfl (fm_dec dtX0_hoursFor 16 rfl) (hq _ (by unfold hoS; rw [if_pos (by have h9 := congrArg Int32.toInt hc7; omega)]; omega))
set_option maxRecDepth 20000 in
theorem c_xcan {M : fmM} {Q : fmR → fmM → Prop} {D : dD} {S : aS} {i : Nat} (hD : dOk D) (hs : xst M D S) (ho : stO D S) (hi : i < D.1) (ht : ¬ S.1.2.2.1.testBit i = true → ¬ S.2 i = 0 → Q (.inl (some (.int 1))) M) (hf : (S.1.2.2.1.testBit i = true ∨ S.2 i = 0) → Q (.inl (some (.int 0))) M) : pvGood Tx 1 qX0_canBePut [.ref 32, .ref 47, .int (nI i)] M Q := by
  refine pvGood_of (Nat.le_of_ble_eq_true rfl) ?_
  show pvEv Tx 1 qX0_canBePut 0 [some (.ref 32), some (.ref 47), some (.int (nI i))] [] M Q
  have d8 := hD.1
  have hi9 : (nI i).toInt = (i : Int) := nI_toInt (by omega)
  have g48 := hs.2.2.2.2.2.2 i hi
  have z0 : (0 : Int32).toInt = 0 := (by decide)
  refine pv_aloadn (pc := 0) (n := 1) 1 rfl rfl (fm_dec dtX0_canBePut 0 rfl) ?_
  refine pv_iloadn (pc := 1) (n := 2) 2 rfl rfl (fm_dec dtX0_canBePut 1 rfl) ?_
  refine pv_invV1 (k := 47) (d' := 0) (pc := 2) pcv_X0_38 (by decide) rfl (Nat.le_of_ble_eq_true rfl) (by decide) (fm_dec dtX0_canBePut 2 rfl) ?_
  refine c_xaliv hs ho (by omega) ?_
  refine pv_then1 ?_
  have e2 : bI (!S.1.2.2.1.testBit i) = 0 ↔ S.1.2.2.1.testBit i = true := (by rw [bI_0]; cases S.1.2.2.1.testBit i <;> decide)
  refine pv_if_eq (pc := 5) 21 (by decide) (fm_dec dtX0_canBePut 3 rfl) (fun hc5 => ?_) (fun hc5 => ?_)
  · refine pv_iconst (pc := 21) (v := 0) (by decide) (fm_dec dtX0_canBePut 11 rfl) ?_
    exact pv_zreturn (pc := 22) rfl (by first | exact Or.inr rfl | exact Or.inl rfl) (fm_dec dtX0_canBePut 12 rfl) (hf (Or.inl (e2.mp hc5)))
  · refine pv_aloadn (pc := 8) (n := 1) 1 rfl rfl (fm_dec dtX0_canBePut 4 rfl) ?_
    refine pv_getR (k := 47) (j := 0) (ci := 6) (pc := 9) 48 rfl (by decide) pfl_X0_78 (by decide) rfl (by decide) (fm_dec dtX0_canBePut 5 rfl) ?_
    refine pv_iloadn (pc := 12) (n := 2) 2 rfl rfl (fm_dec dtX0_canBePut 6 rfl) ?_
    refine pv_iald (k := 48) (n := 8) (pc := 13) (by decide) rfl rfl (ix_in hi9 (by omega)) (fm_dec dtX0_canBePut 7 rfl) ?_
    rw [i32_cl hi9]
    refine pv_if_eq (pc := 14) 21 (by decide) (fm_dec dtX0_canBePut 8 rfl) (fun hc14 => ?_) (fun hc14 => ?_)
    · refine pv_iconst (pc := 21) (v := 0) (by decide) (fm_dec dtX0_canBePut 11 rfl) ?_
      exact pv_zreturn (pc := 22) rfl (by first | exact Or.inr rfl | exact Or.inl rfl) (fm_dec dtX0_canBePut 12 rfl) (hf (Or.inr (by have h9 := congrArg Int32.toInt hc14; omega)))
    · refine pv_iconst (pc := 17) (v := 1) (by decide) (fm_dec dtX0_canBePut 9 rfl) ?_
      refine pv_goto (pc := 18) 22 (by decide) (fm_dec dtX0_canBePut 10 rfl) ?_
      exact pv_zreturn (pc := 22) rfl (by first | exact Or.inr rfl | exact Or.inl rfl) (fm_dec dtX0_canBePut 12 rfl) (ht (fun h9 => hc5 (e2.mpr h9)) (fun h9 => hc14 (i32_ext (by omega))))
def puM2 (M : fmM) (i : Nat) (h : Int32) : fmM := fmI (fmI M 47 3 (M.1 47 3 - h)) 48 i 0
theorem pu_st {M : fmM} {D : dD} {S : aS} {i : Nat} {h : Int32} (hs : xst M D S) (hi : i < D.1) (hh : h.toInt = ((hoS D S i : Nat) : Int)) (hle : hoS D S i ≤ S.1.2.1) (h12 : S.1.2.1 ≤ 12) : xst (puM2 M i h) D ((S.1.1, S.1.2.1 - hoS D S i, S.1.2.2), fun j => if j = i then 0 else S.2 j) := by
  obtain ⟨a, b, c, d, e, f, g⟩ := hs
  refine ⟨a, b, ?_, d, e, f, fun j hj => ?_⟩
  · show (M.1 47 3 - h).toInt = _
    rw [sc_sub (by omega) (by omega)]
    show _ = ((S.1.2.1 - hoS D S i : Nat) : Int)
    omega
  · unfold puM2
    rw [fmI_at]
    by_cases e0 : j = i
    · subst e0
      rw [if_pos ⟨rfl, rfl⟩]
      show (0 : Int32).toInt = if j = j then 0 else S.2 j
      rw [if_pos rfl]
      decide
    · rw [if_neg (by omega), fmI_k _ _ (by decide)]
      show _ = if j = i then 0 else S.2 j
      rw [if_neg e0]
      exact g j hj
set_option maxRecDepth 20000 in
theorem c_xput {M : fmM} {Q : fmR → fmM → Prop} {D : dD} {S : aS} {i : Nat} (hD : dOk D) (hX : xdw 3 M D) (hs : xst M D S) (ho : stO D S) (hi : i < D.1) (hn : puS D S i = none → Q (.inl (some (.int 0))) M) (hq : ∀ (S' : aS) (h : Int32), puS D S i = some S' → xst (puM2 M i h) D S' → Q (.inl (some (.int 1))) (puM2 M i h)) : pvGood Tx 3 qX0_putPiece [.ref 32, .ref 47, .int (nI i)] M Q := by
  refine pvGood_of (Nat.le_of_ble_eq_true rfl) ?_
  show pvEv Tx 3 qX0_putPiece 0 [some (.ref 32), some (.ref 47), some (.int (nI i)), none] [] M Q
  have d8 := hD.1
  have hi9 : (nI i).toInt = (i : Int) := nI_toInt (by omega)
  have h12 := ho.2.1
  have g3 := hs.2.2.1
  refine pv_aloadn (pc := 0) (n := 0) 0 rfl rfl (fm_dec dtX0_putPiece 0 rfl) ?_
  refine pv_aloadn (pc := 1) (n := 1) 1 rfl rfl (fm_dec dtX0_putPiece 1 rfl) ?_
  refine pv_iloadn (pc := 2) (n := 2) 2 rfl rfl (fm_dec dtX0_putPiece 2 rfl) ?_
  refine pv_invV2 (k := 32) (d' := 2) (pc := 3) pcv_X0_113 (by decide) rfl (Nat.le_of_ble_eq_true rfl) (by decide) (fm_dec dtX0_putPiece 3 rfl) ?_
  refine c_xhours hD hX hs hi (fun r3 h3 => ?_)
  refine pv_then1 ?_
  refine pv_istoren (pc := 6) (n := 3) 3 rfl (by decide) rfl (fm_dec dtX0_putPiece 4 rfl) ?_
  dsimp only [List.set_cons_zero, List.set_cons_succ]
  refine pv_aloadn (pc := 7) (n := 0) 0 rfl rfl (fm_dec dtX0_putPiece 5 rfl) ?_
  refine pv_aloadn (pc := 8) (n := 1) 1 rfl rfl (fm_dec dtX0_putPiece 6 rfl) ?_
  refine pv_iloadn (pc := 9) (n := 2) 2 rfl rfl (fm_dec dtX0_putPiece 7 rfl) ?_
  refine pv_invV2 (k := 32) (d' := 1) (pc := 10) pcv_X0_95 (by decide) rfl (Nat.le_of_ble_eq_true rfl) (by decide) (fm_dec dtX0_putPiece 8 rfl) ?_
  refine c_xcan hD hs ho hi (fun h10a h10b => ?_) (fun h10 => ?_)
  · refine pv_then1 ?_
    refine pv_if_eq (pc := 13) 24 (by decide) (fm_dec dtX0_putPiece 9 rfl) (fun hc13 => by exfalso; revert hc13; decide) (fun _ => ?_)
    refine pv_iloadn (pc := 16) (n := 3) 3 rfl rfl (fm_dec dtX0_putPiece 10 rfl) ?_
    refine pv_aloadn (pc := 17) (n := 1) 1 rfl rfl (fm_dec dtX0_putPiece 11 rfl) ?_
    refine pv_getI (k := 47) (j := 3) (ci := 6) (pc := 18) pfl_X0_116 (by decide) rfl (by decide) (fm_dec dtX0_putPiece 12 rfl) ?_
    refine pv_icmp_le (pc := 21) 26 (by decide) (fm_dec dtX0_putPiece 13 rfl) (fun hc21 => ?_) (fun hc21 => ?_)
    · refine pv_aloadn (pc := 26) (n := 1) 1 rfl rfl (fm_dec dtX0_putPiece 16 rfl) ?_
      refine pv_dup (pc := 27) rfl (fm_dec dtX0_putPiece 17 rfl) ?_
      refine pv_getI (k := 47) (j := 3) (ci := 6) (pc := 28) pfl_X0_116 (by decide) rfl (by decide) (fm_dec dtX0_putPiece 18 rfl) ?_
      refine pv_iloadn (pc := 31) (n := 3) 3 rfl rfl (fm_dec dtX0_putPiece 19 rfl) ?_
      refine pv_isub (pc := 32) (fm_dec dtX0_putPiece 20 rfl) ?_
      refine pv_putI (k := 47) (j := 3) (ci := 6) (pc := 33) pfl_X0_116 (by decide) rfl (by decide) (fm_dec dtX0_putPiece 21 rfl) ?_
      refine pv_aloadn (pc := 36) (n := 1) 1 rfl rfl (fm_dec dtX0_putPiece 22 rfl) ?_
      refine pv_getR (k := 47) (j := 0) (ci := 6) (pc := 37) 48 rfl (by decide) pfl_X0_78 (by decide) rfl (by decide) (fm_dec dtX0_putPiece 23 rfl) ?_
      refine pv_iloadn (pc := 40) (n := 2) 2 rfl rfl (fm_dec dtX0_putPiece 24 rfl) ?_
      refine pv_iconst (pc := 41) (v := 0) (by decide) (fm_dec dtX0_putPiece 25 rfl) ?_
      refine pv_iast (k := 48) (n := 8) (pc := 42) (by decide) rfl rfl (ix_in hi9 (by omega)) (fm_dec dtX0_putPiece 26 rfl) ?_
      rw [i32_cl hi9]
      refine pv_iconst (pc := 43) (v := 1) (by decide) (fm_dec dtX0_putPiece 27 rfl) ?_
      exact pv_zreturn (pc := 44) rfl (by first | exact Or.inr rfl | exact Or.inl rfl) (fm_dec dtX0_putPiece 28 rfl) (hq _ r3 (if_neg (by rw [sc_le] at hc21; intro h9; rcases h9 with h | h | h; exact h10a h; exact h10b h; omega)) (pu_st hs hi h3 (by rw [sc_le] at hc21; omega) h12))
    · refine pv_iconst (pc := 24) (v := 0) (by decide) (fm_dec dtX0_putPiece 14 rfl) ?_
      exact pv_zreturn (pc := 25) rfl (by first | exact Or.inr rfl | exact Or.inl rfl) (fm_dec dtX0_putPiece 15 rfl) (hn (if_pos (Or.inr (Or.inr (by rw [sc_le] at hc21; omega)))))
  · refine pv_then1 ?_
    refine pv_if_eq (pc := 13) 24 (by decide) (fm_dec dtX0_putPiece 9 rfl) (fun _ => ?_) (fun hc13 => by exfalso; revert hc13; decide)
    refine pv_iconst (pc := 24) (v := 0) (by decide) (fm_dec dtX0_putPiece 14 rfl) ?_
    exact pv_zreturn (pc := 25) rfl (by first | exact Or.inr rfl | exact Or.inl rfl) (fm_dec dtX0_putPiece 15 rfl) (hn (if_pos (by rcases h10 with h | h; exact Or.inl h; exact Or.inr (Or.inl h))))
set_option maxRecDepth 20000 in
theorem xcg_loop {Q : fmR → fmM → Prop} {M : fmM} {li a b : Int32} {D : dD} (hD : dOk D) (hX : xdw 3 M D) : ∀ (m : Nat) (n : Nat) (i : Int32), i.toInt = (n : Int) → n ≤ D.2.2.1 → D.2.2.1 - n = m → Q (.inl (some (.int (nI (cgA D li.toInt a.toInt b.toInt))))) M → pvEv Tx 0 qX8_changesBetween 6 [some (.ref 3), some (.int li), some (.int a), some (.int b), some (.int (nI (cgS D li.toInt a.toInt b.toInt n))), some (.int i)] [] M Q := by
  intro m
  induction m using Nat.strongRecOn with
  | _ m ih =>
    intro n i hi hnD hm hq
    have c10 : (M.1 3 10).toInt = (D.2.2.1 : Int) := hX.1.2.1
    have d24 := hD.2.1
    refine pv_iload (pc := 6) (i := 5) rfl (fm_dec dtX8_changesBetween 4 rfl) ?_
    refine pv_aloadn (pc := 8) (n := 0) 0 rfl rfl (fm_dec dtX8_changesBetween 5 rfl) ?_
    refine pv_getI (k := 3) (j := 10) (ci := 8) (pc := 9) pfl_X8_46 (by decide) rfl (by decide) (fm_dec dtX8_changesBetween 6 rfl) ?_
    refine pv_icmp_ge (pc := 12) 57 (by decide) (fm_dec dtX8_changesBetween 7 rfl) (fun hc12 => ?_) (fun hc12 => ?_)
    · refine pv_iload (pc := 57) (i := 4) rfl (fm_dec dtX8_changesBetween 29 rfl) ?_
      exact pv_ireturn (pc := 59) rfl (fm_dec dtX8_changesBetween 30 rfl) (by have e9 : n = D.2.2.1 := (by rw [sc_le] at hc12; omega); subst e9; exact hq)
    · have hn : n < D.2.2.1 := (by rw [sc_le] at hc12; omega)
      have f0 : (M.1 10 n).toInt = D.2.2.2.1 n 0 := hX.2.2 n hn 0 (by decide)
      have f2 : (M.1 12 n).toInt = D.2.2.2.1 n 2 := hX.2.2 n hn 2 (by decide)
      refine pv_aloadn (pc := 15) (n := 0) 0 rfl rfl (fm_dec dtX8_changesBetween 8 rfl) ?_
      refine pv_getR (k := 3) (j := 6) (ci := 8) (pc := 16) 10 rfl (by decide) pfl_X8_30 (by decide) rfl (by decide) (fm_dec dtX8_changesBetween 9 rfl) ?_
      refine pv_iload (pc := 19) (i := 5) rfl (fm_dec dtX8_changesBetween 10 rfl) ?_
      refine pv_iald (k := 10) (n := 24) (pc := 21) (by decide) rfl rfl (ix_in hi (by omega)) (fm_dec dtX8_changesBetween 11 rfl) ?_
      rw [i32_cl hi]
      refine pv_iloadn (pc := 22) (n := 1) 1 rfl rfl (fm_dec dtX8_changesBetween 12 rfl) ?_
      refine pv_icmp_ne (pc := 23) 51 (by decide) (fm_dec dtX8_changesBetween 13 rfl) (fun hc23 => ?_) (fun hc23 => ?_)
      · refine pv_iincc (pc := 51) 5 1 (by decide) rfl (by decide) rfl (fm_dec dtX8_changesBetween 27 rfl) ?_
        dsimp only [List.set_cons_zero, List.set_cons_succ]
        refine pv_goto (pc := 54) 6 (by decide) (fm_dec dtX8_changesBetween 28 rfl) ?_
        have e9 : cgS D li.toInt a.toInt b.toInt (n + 1) = cgS D li.toInt a.toInt b.toInt n := if_neg (by intro h9; apply hc23; apply i32_ext; omega)
        rw [← e9]
        exact ih (D.2.2.1 - (n + 1)) (by omega) (n + 1) (i + 1) (i32_p1 hi (by omega)) (by omega) rfl hq
      · refine pv_aloadn (pc := 26) (n := 0) 0 rfl rfl (fm_dec dtX8_changesBetween 14 rfl) ?_
        refine pv_getR (k := 3) (j := 8) (ci := 8) (pc := 27) 12 rfl (by decide) pfl_X8_36 (by decide) rfl (by decide) (fm_dec dtX8_changesBetween 15 rfl) ?_
        refine pv_iload (pc := 30) (i := 5) rfl (fm_dec dtX8_changesBetween 16 rfl) ?_
        refine pv_iald (k := 12) (n := 24) (pc := 32) (by decide) rfl rfl (ix_in hi (by omega)) (fm_dec dtX8_changesBetween 17 rfl) ?_
        rw [i32_cl hi]
        refine pv_iloadn (pc := 33) (n := 2) 2 rfl rfl (fm_dec dtX8_changesBetween 18 rfl) ?_
        refine pv_icmp_le (pc := 34) 51 (by decide) (fm_dec dtX8_changesBetween 19 rfl) (fun hc34 => ?_) (fun hc34 => ?_)
        · refine pv_iincc (pc := 51) 5 1 (by decide) rfl (by decide) rfl (fm_dec dtX8_changesBetween 27 rfl) ?_
          dsimp only [List.set_cons_zero, List.set_cons_succ]
          refine pv_goto (pc := 54) 6 (by decide) (fm_dec dtX8_changesBetween 28 rfl) ?_
          have e9 : cgS D li.toInt a.toInt b.toInt (n + 1) = cgS D li.toInt a.toInt b.toInt n := if_neg (by intro h9; rw [sc_le] at hc34; omega)
          rw [← e9]
          exact ih (D.2.2.1 - (n + 1)) (by omega) (n + 1) (i + 1) (i32_p1 hi (by omega)) (by omega) rfl hq
        · refine pv_aloadn (pc := 37) (n := 0) 0 rfl rfl (fm_dec dtX8_changesBetween 20 rfl) ?_
          refine pv_getR (k := 3) (j := 8) (ci := 8) (pc := 38) 12 rfl (by decide) pfl_X8_36 (by decide) rfl (by decide) (fm_dec dtX8_changesBetween 21 rfl) ?_
          refine pv_iload (pc := 41) (i := 5) rfl (fm_dec dtX8_changesBetween 22 rfl) ?_
          refine pv_iald (k := 12) (n := 24) (pc := 43) (by decide) rfl rfl (ix_in hi (by omega)) (fm_dec dtX8_changesBetween 23 rfl) ?_
          rw [i32_cl hi]
          refine pv_iloadn (pc := 44) (n := 3) 3 rfl rfl (fm_dec dtX8_changesBetween 24 rfl) ?_
          refine pv_icmp_gt (pc := 45) 51 (by decide) (fm_dec dtX8_changesBetween 25 rfl) (fun hc45 => ?_) (fun hc45 => ?_)
          · refine pv_iincc (pc := 51) 5 1 (by decide) rfl (by decide) rfl (fm_dec dtX8_changesBetween 27 rfl) ?_
            dsimp only [List.set_cons_zero, List.set_cons_succ]
            refine pv_goto (pc := 54) 6 (by decide) (fm_dec dtX8_changesBetween 28 rfl) ?_
            have e9 : cgS D li.toInt a.toInt b.toInt (n + 1) = cgS D li.toInt a.toInt b.toInt n := if_neg (by intro h9; rw [sc_lt] at hc45; omega)
            rw [← e9]
            exact ih (D.2.2.1 - (n + 1)) (by omega) (n + 1) (i + 1) (i32_p1 hi (by omega)) (by omega) rfl hq
          · refine pv_iincc (pc := 48) 4 1 (by decide) rfl (by decide) rfl (fm_dec dtX8_changesBetween 26 rfl) ?_
            dsimp only [List.set_cons_zero, List.set_cons_succ]
            refine pv_iincc (pc := 51) 5 1 (by decide) rfl (by decide) rfl (fm_dec dtX8_changesBetween 27 rfl) ?_
            dsimp only [List.set_cons_zero, List.set_cons_succ]
            refine pv_goto (pc := 54) 6 (by decide) (fm_dec dtX8_changesBetween 28 rfl) ?_
            have e9 : cgS D li.toInt a.toInt b.toInt (n + 1) = cgS D li.toInt a.toInt b.toInt n + 1 := if_pos ⟨by rw [← f0, hc23], by rw [sc_le] at hc34; omega, by rw [sc_lt] at hc45; omega⟩
            rw [nI_succ1, ← e9]
            exact ih (D.2.2.1 - (n + 1)) (by omega) (n + 1) (i + 1) (i32_p1 hi (by omega)) (by omega) rfl hq
set_option maxRecDepth 20000 in
theorem c_xcg {M : fmM} {Q : fmR → fmM → Prop} {li a b : Int32} {D : dD} (hD : dOk D) (hX : xdw 3 M D) (hq : Q (.inl (some (.int (nI (cgA D li.toInt a.toInt b.toInt))))) M) : pvGood Tx 0 qX8_changesBetween [.ref 3, .int li, .int a, .int b] M Q := by
  refine pvGood_of (Nat.le_of_ble_eq_true rfl) ?_
  show pvEv Tx 0 qX8_changesBetween 0 [some (.ref 3), some (.int li), some (.int a), some (.int b), none, none] [] M Q
  refine pv_iconst (pc := 0) (v := 0) (by decide) (fm_dec dtX8_changesBetween 0 rfl) ?_
  refine pv_istore (pc := 1) (i := 4) (by decide) rfl (fm_dec dtX8_changesBetween 1 rfl) ?_
  dsimp only [List.set_cons_zero, List.set_cons_succ]
  refine pv_iconst (pc := 3) (v := 0) (by decide) (fm_dec dtX8_changesBetween 2 rfl) ?_
  refine pv_istore (pc := 4) (i := 5) (by decide) rfl (fm_dec dtX8_changesBetween 3 rfl) ?_
  dsimp only [List.set_cons_zero, List.set_cons_succ]
  exact xcg_loop hD hX D.2.2.1 0 0 (by decide) (by omega) (by omega) hq
set_option maxRecDepth 20000 in
theorem c_xyrG {M : fmM} {Q : fmR → fmM → Prop} {D : dD} {i w : Nat} {z : Int32} (hD : dOk D) (hX : xdw 3 M D) (hi : i < D.1) (hz : (M.1 47 2 + z).toInt = (w : Int)) (hw : w ≤ 300) (hq : Q (.inl (some (.int (nI ((D.2.1 i 0).toNat + w / 52))))) M) : pvGood Tx 0 qX0_yearsWhen [.ref 32, .ref 47, .int (nI i), .int z] M Q := by
  refine pvGood_of (Nat.le_of_ble_eq_true rfl) ?_
  show pvEv Tx 0 qX0_yearsWhen 0 [some (.ref 32), some (.ref 47), some (.int (nI i)), some (.int z)] [] M Q
  have d8 := hD.1
  have hi9 : (nI i).toInt = (i : Int) := nI_toInt (by omega)
  have b0 := (hD.2.2.1 i hi).1
  have g0 : (M.1 4 i).toInt = D.2.1 i 0 := hX.2.1 i hi 0 (by decide)
  have z52 : (52 : Int32).toInt = ((52 : Nat) : Int) := (by decide)
  refine pv_aloadn (pc := 0) (n := 0) 0 rfl rfl (fm_dec dtX0_yearsWhen 0 rfl) ?_
  refine pv_getR (k := 32) (j := 0) (ci := 0) (pc := 1) 3 rfl (by decide) pfl_X0_15 (by decide) rfl (by decide) (fm_dec dtX0_yearsWhen 1 rfl) ?_
  refine pv_getR (k := 3) (j := 0) (ci := 8) (pc := 4) 4 rfl (by decide) pfl_X0_23 (by decide) rfl (by decide) (fm_dec dtX0_yearsWhen 2 rfl) ?_
  refine pv_iloadn (pc := 7) (n := 2) 2 rfl rfl (fm_dec dtX0_yearsWhen 3 rfl) ?_
  refine pv_iald (k := 4) (n := 8) (pc := 8) (by decide) rfl rfl (ix_in hi9 (by omega)) (fm_dec dtX0_yearsWhen 4 rfl) ?_
  rw [i32_cl hi9]
  refine pv_aloadn (pc := 9) (n := 1) 1 rfl rfl (fm_dec dtX0_yearsWhen 5 rfl) ?_
  refine pv_getI (k := 47) (j := 2) (ci := 6) (pc := 10) pfl_X0_29 (by decide) rfl (by decide) (fm_dec dtX0_yearsWhen 6 rfl) ?_
  refine pv_iloadn (pc := 13) (n := 3) 3 rfl rfl (fm_dec dtX0_yearsWhen 7 rfl) ?_
  refine pv_iadd (pc := 14) (fm_dec dtX0_yearsWhen 8 rfl) ?_
  refine pv_bipush (pc := 15) (v := 52) (by decide) (fm_dec dtX0_yearsWhen 9 rfl) ?_
  refine pv_idiv (pc := 17) (by decide) (fm_dec dtX0_yearsWhen 10 rfl) ?_
  refine pv_iadd (pc := 18) (fm_dec dtX0_yearsWhen 11 rfl) ?_
  exact pv_ireturn (pc := 19) rfl (fm_dec dtX0_yearsWhen 12 rfl) (by have e8 := dv_n hz z52 (by decide) (by omega); have h8 : w / 52 ≤ w := Nat.div_le_self _ _; have e7 : (M.1 4 i + (M.1 47 2 + z) / 52).toInt = (((D.2.1 i 0).toNat + w / 52 : Nat) : Int) := (by rw [sc_add (by omega) (by omega)]; omega); rw [nI_is e7 (by omega)]; exact hq)
theorem wk_z0 {M : fmM} {D : dD} {S : aS} (hs : xst M D S) (ho : stO D S) : (M.1 47 2 + 0).toInt = (S.1.1 : Int) := by
  have w2 := ho.1
  have g2 := hs.2.1
  have z0 : (0 : Int32).toInt = 0 := by decide
  rw [sc_add (by omega) (by omega)]
  omega
theorem c_xyr {M : fmM} {Q : fmR → fmM → Prop} {D : dD} {S : aS} {i : Nat} (hD : dOk D) (hX : xdw 3 M D) (hs : xst M D S) (ho : stO D S) (hi : i < D.1) (hq : Q (.inl (some (.int (nI ((D.2.1 i 0).toNat + S.1.1 / 52))))) M) : pvGood Tx 0 qX0_yearsWhen [.ref 32, .ref 47, .int (nI i), .int 0] M Q := c_xyrG hD hX hi (wk_z0 hs ho) (by have := ho.1; omega) hq
set_option maxRecDepth 20000 in
theorem c_xsd {M : fmM} {Q : fmR → fmM → Prop} {D : dD} {S : aS} {i : Nat} (hD : dOk D) (hX : xdw 3 M D) (hs : xst M D S) (ho : stO D S) (hi : i < D.1) (hq : Q (.inl (some (.int (nI (sdA D S.1.2.2.1 i))))) M) : pvGood Tx 1 qX0_signerDead [.ref 32, .ref 47, .int (nI i)] M Q := by
  refine pvGood_of (Nat.le_of_ble_eq_true rfl) ?_
  show pvEv Tx 1 qX0_signerDead 0 [some (.ref 32), some (.ref 47), some (.int (nI i)), none] [] M Q
  have d8 := hD.1
  have hi9 : (nI i).toInt = (i : Int) := nI_toInt (by omega)
  have g5 : (M.1 9 i).toInt = chB D i := hX.2.1 i hi 5 (by decide)
  have z0 : (0 : Int32).toInt = 0 := (by decide)
  have ec : D.2.1 i 5 = chB D i := rfl
  refine pv_aloadn (pc := 0) (n := 0) 0 rfl rfl (fm_dec dtX0_signerDead 0 rfl) ?_
  refine pv_getR (k := 32) (j := 0) (ci := 0) (pc := 1) 3 rfl (by decide) pfl_X0_15 (by decide) rfl (by decide) (fm_dec dtX0_signerDead 1 rfl) ?_
  refine pv_getR (k := 3) (j := 5) (ci := 8) (pc := 4) 9 rfl (by decide) pfl_X0_35 (by decide) rfl (by decide) (fm_dec dtX0_signerDead 2 rfl) ?_
  refine pv_iloadn (pc := 7) (n := 2) 2 rfl rfl (fm_dec dtX0_signerDead 3 rfl) ?_
  refine pv_iald (k := 9) (n := 8) (pc := 8) (by decide) rfl rfl (ix_in hi9 (by omega)) (fm_dec dtX0_signerDead 4 rfl) ?_
  rw [i32_cl hi9]
  refine pv_istoren (pc := 9) (n := 3) 3 rfl (by decide) rfl (fm_dec dtX0_signerDead 5 rfl) ?_
  dsimp only [List.set_cons_zero, List.set_cons_succ]
  refine pv_iloadn (pc := 10) (n := 3) 3 rfl rfl (fm_dec dtX0_signerDead 6 rfl) ?_
  refine pv_if_lt (pc := 11) 26 (by decide) (fm_dec dtX0_signerDead 7 rfl) (fun hc11 => ?_) (fun hc11 => ?_)
  · refine pv_iconst (pc := 26) (v := 0) (by decide) (fm_dec dtX0_signerDead 14 rfl) ?_
    exact pv_ireturn (pc := 27) rfl (fm_dec dtX0_signerDead 15 rfl) (by have h9 := hq; unfold sdA at h9; rw [if_pos (by rw [sc_lt] at hc11; omega)] at h9; exact h9)
  · obtain ⟨k, hk, hk8, hkb, hkx⟩ := by_d hD hi g5 (by rw [sc_lt] at hc11; omega)
    rw [hkx]
    refine pv_aloadn (pc := 14) (n := 1) 1 rfl rfl (fm_dec dtX0_signerDead 8 rfl) ?_
    refine pv_iloadn (pc := 15) (n := 3) 3 rfl rfl (fm_dec dtX0_signerDead 9 rfl) ?_
    refine pv_invV1 (k := 47) (d' := 0) (pc := 16) pcv_X0_38 (by decide) rfl (Nat.le_of_ble_eq_true rfl) (by decide) (fm_dec dtX0_signerDead 10 rfl) ?_
    refine c_xaliv hs ho hk8 ?_
    refine pv_then1 ?_
    refine pv_if_ne (pc := 19) 26 (by decide) (fm_dec dtX0_signerDead 11 rfl) (fun hc19 => ?_) (fun hc19 => ?_)
    · refine pv_iconst (pc := 26) (v := 0) (by decide) (fm_dec dtX0_signerDead 14 rfl) ?_
      exact pv_ireturn (pc := 27) rfl (fm_dec dtX0_signerDead 15 rfl) (by have h9 := hq; unfold sdA at h9; rw [if_neg (by omega), ec, hkb, Int.toNat_natCast] at h9; cases ht : S.1.2.2.1.testBit k with | true => exact absurd (show bI (!S.1.2.2.1.testBit k) = 0 by rw [ht]; decide) hc19 | false => (rw [ht] at h9; exact h9))
    · refine pv_iconst (pc := 22) (v := 1) (by decide) (fm_dec dtX0_signerDead 12 rfl) ?_
      refine pv_goto (pc := 23) 27 (by decide) (fm_dec dtX0_signerDead 13 rfl) ?_
      exact pv_ireturn (pc := 27) rfl (fm_dec dtX0_signerDead 15 rfl) (by have h9 := hq; unfold sdA at h9; rw [if_neg (by omega), ec, hkb, Int.toNat_natCast] at h9; cases ht : S.1.2.2.1.testBit k with | true => (rw [ht] at h9; exact h9) | false => (rw [ht] at hc19; exact absurd hc19 (by decide)))
theorem mxt {x z : Int32} : (pvMx true x z).toInt = max x.toInt z.toInt := by
  show (if x.toInt ≤ z.toInt then z else x).toInt = _
  split <;> omega
theorem mxf {x z : Int32} : (pvMx false x z).toInt = min x.toInt z.toInt := by
  show (if x.toInt ≤ z.toInt then x else z).toInt = _
  split <;> omega
theorem outV_b {x : Int32} : 0 ≤ (outV x).toInt ∧ (outV x).toInt ≤ 64 := by
  unfold outV
  have z0 : (0 : Int32).toInt = 0 := by decide
  have z64 : (64 : Int32).toInt = 64 := by decide
  rw [mxt, mxf, z0, z64]
  omega
theorem wrS_b {D : dD} {cs : tC} {dead w i age : Nat} : 0 ≤ wrS D cs dead w i age ∧ wrS D cs dead w i age ≤ 64 := outV_b
theorem cg_24 {D : dD} {li a b : Int} (hD : dOk D) : cgA D li a b ≤ 24 := Nat.le_trans (cg_le _) hD.2.1
set_option maxRecDepth 20000 in
theorem c_xwrgG {M : fmM} {Q : fmR → fmM → Prop} {D : dD} {cs : tC} {S : aS} {i a w : Nat} {z : Int32} (hD : dOk D) (hX : xdw 3 M D) (hL : lwX M cs) (hs : xst M D S) (ho : stO D S) (hi : i < D.1) (hz : (M.1 47 2 + z).toInt = (w : Int)) (hw : w ≤ 300) (ha : a ≤ 400) (hq : ∀ (M' : fmM) (r : Int32), (∀ k j, k ≠ 26 → M'.1 k j = M.1 k j) → M'.2 = M.2 → r.toInt = wrS D cs S.1.2.2.1 w i a → Q (.inl (some (.int r))) M') : pvGood Tx 2 qX0_wrongWhen [.ref 32, .ref 47, .int (nI i), .int z, .int (nI a)] M Q := by
  refine pvGood_of (Nat.le_of_ble_eq_true rfl) ?_
  show pvEv Tx 2 qX0_wrongWhen 0 [some (.ref 32), some (.ref 47), some (.int (nI i)), some (.int z), some (.int (nI a)), none, none] [] M Q
  have d8 := hD.1
  have hi9 : (nI i).toInt = (i : Int) := nI_toInt (by omega)
  have ha9 : (nI a).toInt = (a : Int) := nI_toInt (by omega)
  have ea : (M.1 47 2 + z - nI a).toInt = (w : Int) - a := (by rw [sc_sub (by omega) (by omega)]; omega)
  have b2 := (hD.2.2.1 i hi).2.2.1
  have g2 : M.1 6 i = nI (D.2.1 i 2).toNat := nI_is (by have h9 : (M.1 6 i).toInt = D.2.1 i 2 := hX.2.1 i hi 2 (by decide); omega) (by omega)
  refine pv_aloadn (pc := 0) (n := 1) 1 rfl rfl (fm_dec dtX0_wrongWhen 0 rfl) ?_
  refine pv_getI (k := 47) (j := 2) (ci := 6) (pc := 1) pfl_X0_29 (by decide) rfl (by decide) (fm_dec dtX0_wrongWhen 1 rfl) ?_
  refine pv_iloadn (pc := 4) (n := 3) 3 rfl rfl (fm_dec dtX0_wrongWhen 2 rfl) ?_
  refine pv_iadd (pc := 5) (fm_dec dtX0_wrongWhen 3 rfl) ?_
  refine pv_istore (pc := 6) (i := 5) (by decide) rfl (fm_dec dtX0_wrongWhen 4 rfl) ?_
  dsimp only [List.set_cons_zero, List.set_cons_succ]
  refine pv_aloadn (pc := 8) (n := 0) 0 rfl rfl (fm_dec dtX0_wrongWhen 5 rfl) ?_
  refine pv_getR (k := 32) (j := 0) (ci := 0) (pc := 9) 3 rfl (by decide) pfl_X0_15 (by decide) rfl (by decide) (fm_dec dtX0_wrongWhen 6 rfl) ?_
  refine pv_iloadn (pc := 12) (n := 2) 2 rfl rfl (fm_dec dtX0_wrongWhen 7 rfl) ?_
  refine pv_iload (pc := 13) (i := 5) rfl (fm_dec dtX0_wrongWhen 8 rfl) ?_
  refine pv_iload (pc := 15) (i := 4) rfl (fm_dec dtX0_wrongWhen 9 rfl) ?_
  refine pv_isub (pc := 17) (fm_dec dtX0_wrongWhen 10 rfl) ?_
  refine pv_iload (pc := 18) (i := 5) rfl (fm_dec dtX0_wrongWhen 11 rfl) ?_
  refine pv_invV3 (k := 3) (d' := 0) (pc := 20) pcv_X0_42 (by decide) rfl (Nat.le_of_ble_eq_true rfl) (by decide) (fm_dec dtX0_wrongWhen 12 rfl) ?_
  refine c_xcg hD hX ?_
  refine pv_then1 ?_
  refine pv_istore (pc := 23) (i := 6) (by decide) rfl (fm_dec dtX0_wrongWhen 13 rfl) ?_
  dsimp only [List.set_cons_zero, List.set_cons_succ]
  refine pv_aloadn (pc := 25) (n := 0) 0 rfl rfl (fm_dec dtX0_wrongWhen 14 rfl) ?_
  refine pv_getR (k := 32) (j := 1) (ci := 0) (pc := 26) 23 rfl (by decide) pfl_X0_19 (by decide) rfl (by decide) (fm_dec dtX0_wrongWhen 15 rfl) ?_
  refine pv_iload (pc := 29) (i := 4) rfl (fm_dec dtX0_wrongWhen 16 rfl) ?_
  refine pv_aloadn (pc := 31) (n := 0) 0 rfl rfl (fm_dec dtX0_wrongWhen 17 rfl) ?_
  refine pv_aloadn (pc := 32) (n := 1) 1 rfl rfl (fm_dec dtX0_wrongWhen 18 rfl) ?_
  refine pv_iloadn (pc := 33) (n := 2) 2 rfl rfl (fm_dec dtX0_wrongWhen 19 rfl) ?_
  refine pv_iloadn (pc := 34) (n := 3) 3 rfl rfl (fm_dec dtX0_wrongWhen 20 rfl) ?_
  refine pv_invV3 (k := 32) (d' := 0) (pc := 35) pcv_X0_46 (by decide) rfl (Nat.le_of_ble_eq_true rfl) (by decide) (fm_dec dtX0_wrongWhen 21 rfl) ?_
  refine c_xyrG hD hX hi hz hw ?_
  refine pv_then1 ?_
  refine pv_aloadn (pc := 38) (n := 0) 0 rfl rfl (fm_dec dtX0_wrongWhen 22 rfl) ?_
  refine pv_getR (k := 32) (j := 0) (ci := 0) (pc := 39) 3 rfl (by decide) pfl_X0_15 (by decide) rfl (by decide) (fm_dec dtX0_wrongWhen 23 rfl) ?_
  refine pv_getR (k := 3) (j := 2) (ci := 8) (pc := 42) 6 rfl (by decide) pfl_X0_50 (by decide) rfl (by decide) (fm_dec dtX0_wrongWhen 24 rfl) ?_
  refine pv_iloadn (pc := 45) (n := 2) 2 rfl rfl (fm_dec dtX0_wrongWhen 25 rfl) ?_
  refine pv_iald (k := 6) (n := 8) (pc := 46) (by decide) rfl rfl (ix_in hi9 (by omega)) (fm_dec dtX0_wrongWhen 26 rfl) ?_
  rw [i32_cl hi9, g2]
  refine pv_aloadn (pc := 47) (n := 0) 0 rfl rfl (fm_dec dtX0_wrongWhen 27 rfl) ?_
  refine pv_aloadn (pc := 48) (n := 1) 1 rfl rfl (fm_dec dtX0_wrongWhen 28 rfl) ?_
  refine pv_iloadn (pc := 49) (n := 2) 2 rfl rfl (fm_dec dtX0_wrongWhen 29 rfl) ?_
  refine pv_invV2 (k := 32) (d' := 1) (pc := 50) pcv_X0_53 (by decide) rfl (Nat.le_of_ble_eq_true rfl) (by decide) (fm_dec dtX0_wrongWhen 30 rfl) ?_
  refine c_xsd hD hX hs ho hi ?_
  refine pv_then1 ?_
  refine pv_iload (pc := 53) (i := 6) rfl (fm_dec dtX0_wrongWhen 31 rfl) ?_
  refine pv_invV5 (k := 23) (d' := 1) (pc := 55) pcv_X0_57 (by decide) rfl (Nat.le_of_ble_eq_true rfl) (by decide) (fm_dec dtX0_wrongWhen 32 rfl) ?_
  refine c_xlw hL (fun M55 g55 h55 => ?_)
  refine pv_then1 ?_
  exact pv_ireturn (pc := 58) rfl (fm_dec dtX0_wrongWhen 33 rfl) (hq M55 _ g55 h55 (by unfold wrS; rw [hi9, hz, ea]))
theorem c_xwrg {M : fmM} {Q : fmR → fmM → Prop} {D : dD} {cs : tC} {S : aS} {i a : Nat} (hD : dOk D) (hX : xdw 3 M D) (hL : lwX M cs) (hs : xst M D S) (ho : stO D S) (hi : i < D.1) (ha : a ≤ 240) (hq : ∀ (M' : fmM) (r : Int32), (∀ k j, k ≠ 26 → M'.1 k j = M.1 k j) → M'.2 = M.2 → r.toInt = wrS D cs S.1.2.2.1 S.1.1 i a → Q (.inl (some (.int r))) M') : pvGood Tx 2 qX0_wrongWhen [.ref 32, .ref 47, .int (nI i), .int 0, .int (nI a)] M Q := c_xwrgG hD hX hL hs ho hi (wk_z0 hs ho) (by have := ho.1; omega) (by omega) hq
theorem j64 {x : Int64} {z : Int32} {a b : Int} (hx : x.toInt = a) (hz : z.toInt = b) (h1 : -1000000000 ≤ a * b) (h2 : a * b ≤ 1000000000) : (x * z.toInt64).toInt = a * b := by
  rw [Int64.toInt_mul, Int32.toInt_toInt64, hx, hz]
  exact Int.bmod_eq_of_le (by omega) (by omega)
theorem mul_b {a b m n : Int} (ha : 0 ≤ a) (ha2 : a ≤ m) (hb : 0 ≤ b) (hb2 : b ≤ n) : 0 ≤ a * b ∧ a * b ≤ m * n := ⟨Int.mul_nonneg ha hb, Int.mul_le_mul ha2 hb2 hb (by omega)⟩
/-- what a death would lose in week w, the piece being so old then, or -1 -/
def coA (D : dD) (cs : tC) (dead w i : Nat) (age : Int) : Int := if age = -1 then 64 * D.2.2.2.2 3 * D.2.1 i 2 else D.2.2.2.2 4 * D.2.1 i 2 * wrS D cs dead w i age.toNat
theorem coS_A {D : dD} {cs : tC} {S : aS} {i : Nat} : coS D cs S i = coA D cs S.1.2.2.1 S.1.1 i (S.2 i) := rfl
theorem coA_b {D : dD} {cs : tC} {dead w i : Nat} {age : Int} (hD : dOk D) (hi : i < D.1) : 0 ≤ coA D cs dead w i age ∧ coA D cs dead w i age ≤ 57024 := by
  have b2 := (hD.2.2.1 i hi).2.2.1
  have b3 := hD.2.2.2.2.2.1
  have b4 := hD.2.2.2.2.2.2.1
  unfold coA
  split
  · have h1 := mul_b (a := 64 * D.2.2.2.2 3) (b := D.2.1 i 2) (m := 576) (n := 99) (by omega) (by omega) (by omega) (by omega)
    omega
  · have h1 := mul_b (a := D.2.2.2.2 4) (b := D.2.1 i 2) (m := 9) (n := 99) (by omega) (by omega) (by omega) (by omega)
    have hw := wrS_b (D := D) (cs := cs) (dead := dead) (w := w) (i := i) (age := age.toNat)
    have h2 := mul_b (a := D.2.2.2.2 4 * D.2.1 i 2) (b := wrS D cs dead w i age.toNat) (m := 891) (n := 64) (by omega) (by omega) hw.1 hw.2
    omega
theorem coS_b {D : dD} {cs : tC} {S : aS} {i : Nat} (hD : dOk D) (hi : i < D.1) : 0 ≤ coS D cs S i ∧ coS D cs S i ≤ 57024 := by
  have b2 := (hD.2.2.1 i hi).2.2.1
  have b3 := hD.2.2.2.2.2.1
  have b4 := hD.2.2.2.2.2.2.1
  unfold coS
  split
  · have h1 := mul_b (a := 64 * D.2.2.2.2 3) (b := D.2.1 i 2) (m := 576) (n := 99) (by omega) (by omega) (by omega) (by omega)
    omega
  · have h1 := mul_b (a := D.2.2.2.2 4) (b := D.2.1 i 2) (m := 9) (n := 99) (by omega) (by omega) (by omega) (by omega)
    have hw := wrS_b (D := D) (cs := cs) (dead := S.1.2.2.1) (w := S.1.1) (i := i) (age := (S.2 i).toNat)
    have h2 := mul_b (a := D.2.2.2.2 4 * D.2.1 i 2) (b := wrS D cs S.1.2.2.1 S.1.1 i (S.2 i).toNat) (m := 891) (n := 64) (by omega) (by omega) hw.1 hw.2
    omega
set_option maxRecDepth 20000 in
theorem c_xcostG {M : fmM} {Q : fmR → fmM → Prop} {D : dD} {cs : tC} {S : aS} {i w : Nat} {ag : Int} {z x : Int32} (hD : dOk D) (hX : xdw 3 M D) (hL : lwX M cs) (hs : xst M D S) (ho : stO D S) (hi : i < D.1) (hz : (M.1 47 2 + z).toInt = (w : Int)) (hw : w ≤ 300) (hx : x.toInt = ag) (ha : -1 ≤ ag ∧ ag ≤ 400) (hq : ∀ (M' : fmM) (r : Int64), (∀ k j, k ≠ 26 → M'.1 k j = M.1 k j) → M'.2 = M.2 → r.toInt = coA D cs S.1.2.2.1 w i ag → Q (.inl (some (.long r))) M') : pvGood Tx 3 qX0_costWhen [.ref 32, .ref 47, .int (nI i), .int z, .int x] M Q := by
  refine pvGood_of (Nat.le_of_ble_eq_true rfl) ?_
  show pvEv Tx 3 qX0_costWhen 0 [some (.ref 32), some (.ref 47), some (.int (nI i)), some (.int z), some (.int x)] [] M Q
  have d8 := hD.1
  have hi9 : (nI i).toInt = (i : Int) := nI_toInt (by omega)
  have zm : (-1 : Int32).toInt = -1 := (by decide)
  have b2 := (hD.2.2.1 i hi).2.2.1
  have b3 := hD.2.2.2.2.2.1
  have b4 := hD.2.2.2.2.2.2.1
  have g2 : (M.1 6 i).toInt = D.2.1 i 2 := hX.2.1 i hi 2 (by decide)
  have g3 : (M.1 3 12).toInt = D.2.2.2.2 3 := hX.1.2.2.2.1
  have g4 : (M.1 3 13).toInt = D.2.2.2.2 4 := hX.1.2.2.2.2.1
  refine pv_iload (pc := 0) (i := 4) rfl (fm_dec dtX0_costWhen 0 rfl) ?_
  refine pv_iconst (pc := 2) (v := (-1)) (by decide) (fm_dec dtX0_costWhen 1 rfl) ?_
  refine pv_icmp_ne (pc := 3) 30 (by decide) (fm_dec dtX0_costWhen 2 rfl) (fun hc3 => ?_) (fun hc3 => ?_)
  · have hne : ¬ ag = -1 := (fun h9 => hc3 (i32_ext (by omega)))
    have hxa : x = nI ag.toNat := nI_is (by omega) (by omega)
    subst hxa
    refine pv_aloadn (pc := 30) (n := 0) 0 rfl rfl (fm_dec dtX0_costWhen 17 rfl) ?_
    refine pv_getR (k := 32) (j := 0) (ci := 0) (pc := 31) 3 rfl (by decide) pfl_X0_15 (by decide) rfl (by decide) (fm_dec dtX0_costWhen 18 rfl) ?_
    refine pv_getI (k := 3) (j := 13) (ci := 8) (pc := 34) pfl_X0_68 (by decide) rfl (by decide) (fm_dec dtX0_costWhen 19 rfl) ?_
    refine pv_i2l (pc := 37) (fm_dec dtX0_costWhen 20 rfl) ?_
    refine pv_aloadn (pc := 38) (n := 0) 0 rfl rfl (fm_dec dtX0_costWhen 21 rfl) ?_
    refine pv_getR (k := 32) (j := 0) (ci := 0) (pc := 39) 3 rfl (by decide) pfl_X0_15 (by decide) rfl (by decide) (fm_dec dtX0_costWhen 22 rfl) ?_
    refine pv_getR (k := 3) (j := 2) (ci := 8) (pc := 42) 6 rfl (by decide) pfl_X0_50 (by decide) rfl (by decide) (fm_dec dtX0_costWhen 23 rfl) ?_
    refine pv_iloadn (pc := 45) (n := 2) 2 rfl rfl (fm_dec dtX0_costWhen 24 rfl) ?_
    refine pv_iald (k := 6) (n := 8) (pc := 46) (by decide) rfl rfl (ix_in hi9 (by omega)) (fm_dec dtX0_costWhen 25 rfl) ?_
    rw [i32_cl hi9]
    refine pv_i2l (pc := 47) (fm_dec dtX0_costWhen 26 rfl) ?_
    refine pv_lmul (pc := 48) (fm_dec dtX0_costWhen 27 rfl) ?_
    refine pv_aloadn (pc := 49) (n := 0) 0 rfl rfl (fm_dec dtX0_costWhen 28 rfl) ?_
    refine pv_aloadn (pc := 50) (n := 1) 1 rfl rfl (fm_dec dtX0_costWhen 29 rfl) ?_
    refine pv_iloadn (pc := 51) (n := 2) 2 rfl rfl (fm_dec dtX0_costWhen 30 rfl) ?_
    refine pv_iloadn (pc := 52) (n := 3) 3 rfl rfl (fm_dec dtX0_costWhen 31 rfl) ?_
    refine pv_iload (pc := 53) (i := 4) rfl (fm_dec dtX0_costWhen 32 rfl) ?_
    refine pv_invV4 (k := 32) (d' := 2) (pc := 55) pcv_X0_71 (by decide) rfl (Nat.le_of_ble_eq_true rfl) (by decide) (fm_dec dtX0_costWhen 33 rfl) ?_
    refine c_xwrgG hD hX hL hs ho hi hz hw (by omega) (fun M55 r55 g55 h55 e55 => ?_)
    refine pv_then1 ?_
    refine pv_i2l (pc := 58) (fm_dec dtX0_costWhen 34 rfl) ?_
    refine pv_lmul (pc := 59) (fm_dec dtX0_costWhen 35 rfl) ?_
    exact pv_lreturn (pc := 60) rfl (fm_dec dtX0_costWhen 36 rfl) (hq M55 _ g55 h55 (by have h1 := mul_b (a := D.2.2.2.2 4) (b := D.2.1 i 2) (m := 9) (n := 99) (by omega) (by omega) (by omega) (by omega); have e1 := j64 (x := (M.1 3 13).toInt64) (a := D.2.2.2.2 4) (by rw [Int32.toInt_toInt64]; exact g4) g2 (by omega) (by omega); have hw9 := wrS_b (D := D) (cs := cs) (dead := S.1.2.2.1) (w := w) (i := i) (age := ag.toNat); have h2 := mul_b (a := D.2.2.2.2 4 * D.2.1 i 2) (b := wrS D cs S.1.2.2.1 w i ag.toNat) (m := 891) (n := 64) (by omega) (by omega) hw9.1 hw9.2; rw [j64 e1 e55 (by omega) (by omega)]; unfold coA; rw [if_neg hne]))
  · refine pv_ldc2 (pc := 6) pkc_X0_63 (fm_dec dtX0_costWhen 3 rfl) ?_
    refine pv_aloadn (pc := 9) (n := 0) 0 rfl rfl (fm_dec dtX0_costWhen 4 rfl) ?_
    refine pv_getR (k := 32) (j := 0) (ci := 0) (pc := 10) 3 rfl (by decide) pfl_X0_15 (by decide) rfl (by decide) (fm_dec dtX0_costWhen 5 rfl) ?_
    refine pv_getI (k := 3) (j := 12) (ci := 8) (pc := 13) pfl_X0_65 (by decide) rfl (by decide) (fm_dec dtX0_costWhen 6 rfl) ?_
    refine pv_i2l (pc := 16) (fm_dec dtX0_costWhen 7 rfl) ?_
    refine pv_lmul (pc := 17) (fm_dec dtX0_costWhen 8 rfl) ?_
    refine pv_aloadn (pc := 18) (n := 0) 0 rfl rfl (fm_dec dtX0_costWhen 9 rfl) ?_
    refine pv_getR (k := 32) (j := 0) (ci := 0) (pc := 19) 3 rfl (by decide) pfl_X0_15 (by decide) rfl (by decide) (fm_dec dtX0_costWhen 10 rfl) ?_
    refine pv_getR (k := 3) (j := 2) (ci := 8) (pc := 22) 6 rfl (by decide) pfl_X0_50 (by decide) rfl (by decide) (fm_dec dtX0_costWhen 11 rfl) ?_
    refine pv_iloadn (pc := 25) (n := 2) 2 rfl rfl (fm_dec dtX0_costWhen 12 rfl) ?_
    refine pv_iald (k := 6) (n := 8) (pc := 26) (by decide) rfl rfl (ix_in hi9 (by omega)) (fm_dec dtX0_costWhen 13 rfl) ?_
    rw [i32_cl hi9]
    refine pv_i2l (pc := 27) (fm_dec dtX0_costWhen 14 rfl) ?_
    refine pv_lmul (pc := 28) (fm_dec dtX0_costWhen 15 rfl) ?_
    exact pv_lreturn (pc := 29) rfl (fm_dec dtX0_costWhen 16 rfl) (hq M _ (fun _ _ _ => rfl) rfl (by have h1 := mul_b (a := 64) (b := D.2.2.2.2 3) (m := 64) (n := 9) (by omega) (by omega) (by omega) (by omega); have e1 := j64 (x := 64) (a := 64) (by decide) g3 (by omega) (by omega); have h2 := mul_b (a := 64 * D.2.2.2.2 3) (b := D.2.1 i 2) (m := 576) (n := 99) (by omega) (by omega) (by omega) (by omega); rw [j64 e1 g2 (by omega) (by omega)]; unfold coA; rw [if_pos (by have h9 := congrArg Int32.toInt hc3; omega)]))
theorem c_xcost {M : fmM} {Q : fmR → fmM → Prop} {D : dD} {cs : tC} {S : aS} {i : Nat} {x : Int32} (hD : dOk D) (hX : xdw 3 M D) (hL : lwX M cs) (hs : xst M D S) (ho : stO D S) (hi : i < D.1) (hx : x.toInt = S.2 i) (hq : ∀ (M' : fmM) (r : Int64), (∀ k j, k ≠ 26 → M'.1 k j = M.1 k j) → M'.2 = M.2 → r.toInt = coS D cs S i → Q (.inl (some (.long r))) M') : pvGood Tx 3 qX0_costWhen [.ref 32, .ref 47, .int (nI i), .int 0, .int x] M Q := c_xcostG hD hX hL hs ho hi (wk_z0 hs ho) (by have := ho.1; omega) hx (by have h1 := ho.2.2.2.2.2.2.1 i hi; have h2 := ho.1; omega) hq
/-- nothing but the state and the law's own stack has changed -/
def sFr (M M' : fmM) : Prop := (∀ k j, k ≠ 26 → k ≠ 47 → k ≠ 48 → M'.1 k j = M.1 k j) ∧ (∀ k j, k ≠ 47 → M'.2 k j = M.2 k j)
theorem sFr.refl (M : fmM) : sFr M M := ⟨fun _ _ _ _ _ => rfl, fun _ _ _ => rfl⟩
theorem sFr.trans {M M1 M2 : fmM} (h : sFr M M1) (h' : sFr M1 M2) : sFr M M2 := ⟨fun k j a b c => (h'.1 k j a b c).trans (h.1 k j a b c), fun k j a => (h'.2 k j a).trans (h.2 k j a)⟩
theorem sFr.put {M M1 : fmM} {k j : Nat} {x : Int32} (h : sFr M M1) (hk : k = 47 ∨ k = 48) : sFr M (fmI M1 k j x) := ⟨fun k' j' a b c => by rw [fmI_k _ _ (by omega)]; exact h.1 k' j' a b c, h.2⟩
theorem fmJ_k2 {M : fmM} {k k' j : Nat} {x : Int64} (h : k' ≠ k) : (fmJ M k j x).2 k' = M.2 k' := by
  show (if k' = k then _ else M.2 k') = _
  rw [if_neg h]
theorem fmJ_s2 {M : fmM} {k j : Nat} {x : Int64} : (fmJ M k j x).2 k j = x := by
  show (if k = k then vp_updL (M.2 k) j x else M.2 k) j = x
  rw [if_pos rfl]
  simp [vp_updL]
theorem sFr.putJ {M M1 : fmM} {j : Nat} {x : Int64} (h : sFr M M1) : sFr M (fmJ M1 47 j x) := ⟨h.1, fun k' j' a => by rw [fmJ_k2 a]; exact h.2 k' j' a⟩
theorem xst.low {M M' : fmM} {D : dD} {S : aS} (h : xst M D S) (hk : ∀ k j, k ≠ 26 → M'.1 k j = M.1 k j) (h2 : M'.2 = M.2) : xst M' D S := h.of (fun k j a => hk k j (by omega)) (by rw [h2])
theorem or8n : ∀ w, w < 256 → ∀ k, k < 8 → (nI w ||| (1 : Int32) <<< (nI k &&& 31)).toInt = ((w ||| 1 <<< k : Nat) : Int) := by decide +kernel
def diM (M : fmM) (L : Int64) (i : Nat) (no : Bool) : fmM := if no then fmI (fmI (fmI (fmJ M 47 6 L) 47 4 (M.1 47 4 + 1)) 47 3 (pvMx true 0 (M.1 47 3 - 2))) 47 1 (M.1 47 1 ||| 1 <<< (nI i &&& 31)) else fmI (fmI (fmI (fmJ M 47 6 L) 47 5 (M.1 47 5 + 1)) 48 i (-1)) 47 1 (M.1 47 1 ||| 1 <<< (nI i &&& 31))
theorem di_st {M : fmM} {D : dD} {cs : tC} {S : aS} {i : Nat} {L : Int64} (hD : dOk D) (hs : xst M D S) (ho : stO D S) (hi : i < D.1) (ht : S.1.2.2.1.testBit i = false) (hL : L.toInt = S.1.2.2.2.2.2 + coS D cs S i) : ∃ S', diS D cs S i = some S' ∧ xst (diM M L i (decide (S.2 i = -1))) D S' := by
  obtain ⟨a, b, c, d, e, f, g⟩ := hs
  have d8 := hD.1
  have p8 := pop8_le _ ho.2.2.1
  have hp := ho.2.2.2.1
  have h12 := ho.2.1
  have z0 : (0 : Int32).toInt = 0 := by decide
  have z1 : (1 : Int32).toInt = 1 := by decide
  have z2 : (2 : Int32).toInt = 2 := by decide
  have e1 : M.1 47 1 = nI S.1.2.2.1 := nI_is a (by have := ho.2.2.1; omega)
  have eo : (M.1 47 1 ||| 1 <<< (nI i &&& 31)).toInt = ((S.1.2.2.1 ||| 1 <<< i : Nat) : Int) := by rw [e1]; exact or8n _ ho.2.2.1 i (by omega)
  unfold diS
  rw [if_neg (by rw [ht]; decide)]
  by_cases hm : S.2 i = -1
  · rw [if_pos hm]
    refine ⟨_, rfl, ?_⟩
    have e9 : diM M L i (decide (S.2 i = -1)) = fmI (fmI (fmI (fmJ M 47 6 L) 47 4 (M.1 47 4 + 1)) 47 3 (pvMx true 0 (M.1 47 3 - 2))) 47 1 (M.1 47 1 ||| 1 <<< (nI i &&& 31)) := by
      unfold diM
      rw [if_pos (decide_eq_true hm)]
    rw [e9]
    refine ⟨eo, b, ?_, ?_, e, ?_, fun j hj => g j hj⟩
    · show (pvMx true 0 (M.1 47 3 - 2)).toInt = ((S.1.2.1 - 2 : Nat) : Int)
      rw [mxt, sc_sub (by omega) (by omega), z0, z2, c]
      omega
    · show (M.1 47 4 + 1).toInt = ((S.1.2.2.2.1 + 1 : Nat) : Int)
      rw [sc_add (by omega) (by omega)]
      omega
    · show ((fmJ M 47 6 L).2 47 6).toInt = _
      rw [fmJ_s2]
      exact hL
  · rw [if_neg hm]
    refine ⟨_, rfl, ?_⟩
    have e9 : diM M L i (decide (S.2 i = -1)) = fmI (fmI (fmI (fmJ M 47 6 L) 47 5 (M.1 47 5 + 1)) 48 i (-1)) 47 1 (M.1 47 1 ||| 1 <<< (nI i &&& 31)) := by
      unfold diM
      rw [if_neg (by rw [decide_eq_true_eq]; exact hm)]
    rw [e9]
    refine ⟨eo, b, c, d, ?_, ?_, fun j hj => ?_⟩
    · show (M.1 47 5 + 1).toInt = ((S.1.2.2.2.2.1 + 1 : Nat) : Int)
      rw [sc_add (by omega) (by omega)]
      omega
    · show ((fmJ M 47 6 L).2 47 6).toInt = _
      rw [fmJ_s2]
      exact hL
    · rw [fmI_k _ _ (by decide), fmI_at]
      by_cases e0 : j = i
      · subst e0
        rw [if_pos ⟨rfl, rfl⟩]
        show (-1 : Int32).toInt = if j = j then -1 else S.2 j
        rw [if_pos rfl]
        decide
      · rw [if_neg (by omega), fmI_k _ _ (by decide)]
        show _ = if j = i then -1 else S.2 j
        rw [if_neg e0]
        exact g j hj
theorem di_fr {M0 M : fmM} {L : Int64} {i : Nat} {no : Bool} (h : sFr M0 M) : sFr M0 (diM M L i no) := by
  unfold diM
  split
  · exact ((h.putJ.put (Or.inl rfl)).put (Or.inl rfl)).put (Or.inl rfl)
  · exact ((h.putJ.put (Or.inl rfl)).put (Or.inr rfl)).put (Or.inl rfl)
set_option maxRecDepth 20000 in
theorem c_xdie {M : fmM} {Q : fmR → fmM → Prop} {D : dD} {cs : tC} {S : aS} {i : Nat} (hD : dOk D) (hX : xdw 3 M D) (hL : lwX M cs) (hs : xst M D S) (ho : stO D S) (hi : i < D.1) (hn : diS D cs S i = none → Q (.inl (some (.int 0))) M) (hq : ∀ (M' : fmM) (S' : aS), diS D cs S i = some S' → xst M' D S' → sFr M M' → Q (.inl (some (.int 1))) M') : pvGood Tx 4 qX0_letDie [.ref 32, .ref 47, .int (nI i)] M Q := by
  refine pvGood_of (Nat.le_of_ble_eq_true rfl) ?_
  show pvEv Tx 4 qX0_letDie 0 [some (.ref 32), some (.ref 47), some (.int (nI i))] [] M Q
  have d8 := hD.1
  have hi9 : (nI i).toInt = (i : Int) := nI_toInt (by omega)
  have g48 := hs.2.2.2.2.2.2 i hi
  have zm : (-1 : Int32).toInt = -1 := (by decide)
  refine pv_aloadn (pc := 0) (n := 1) 1 rfl rfl (fm_dec dtX0_letDie 0 rfl) ?_
  refine pv_iloadn (pc := 1) (n := 2) 2 rfl rfl (fm_dec dtX0_letDie 1 rfl) ?_
  refine pv_invV1 (k := 47) (d' := 0) (pc := 2) pcv_X0_38 (by decide) rfl (Nat.le_of_ble_eq_true rfl) (by decide) (fm_dec dtX0_letDie 2 rfl) ?_
  refine c_xaliv hs ho (by omega) ?_
  refine pv_then1 ?_
  refine pv_if_ne (pc := 5) 10 (by decide) (fm_dec dtX0_letDie 3 rfl) (fun hc5 => ?_) (fun hc5 => ?_)
  · refine pv_aloadn (pc := 10) (n := 1) 1 rfl rfl (fm_dec dtX0_letDie 6 rfl) ?_
    refine pv_dup (pc := 11) rfl (fm_dec dtX0_letDie 7 rfl) ?_
    refine pv_getJ (k := 47) (j := 6) (ci := 6) (pc := 12) pfl_X0_118 (by decide) rfl (by decide) (fm_dec dtX0_letDie 8 rfl) ?_
    refine pv_aloadn (pc := 15) (n := 0) 0 rfl rfl (fm_dec dtX0_letDie 9 rfl) ?_
    refine pv_aloadn (pc := 16) (n := 1) 1 rfl rfl (fm_dec dtX0_letDie 10 rfl) ?_
    refine pv_iloadn (pc := 17) (n := 2) 2 rfl rfl (fm_dec dtX0_letDie 11 rfl) ?_
    refine pv_iconst (pc := 18) (v := 0) (by decide) (fm_dec dtX0_letDie 12 rfl) ?_
    refine pv_aloadn (pc := 19) (n := 1) 1 rfl rfl (fm_dec dtX0_letDie 13 rfl) ?_
    refine pv_getR (k := 47) (j := 0) (ci := 6) (pc := 20) 48 rfl (by decide) pfl_X0_78 (by decide) rfl (by decide) (fm_dec dtX0_letDie 14 rfl) ?_
    refine pv_iloadn (pc := 23) (n := 2) 2 rfl rfl (fm_dec dtX0_letDie 15 rfl) ?_
    refine pv_iald (k := 48) (n := 8) (pc := 24) (by decide) rfl rfl (ix_in hi9 (by omega)) (fm_dec dtX0_letDie 16 rfl) ?_
    rw [i32_cl hi9]
    refine pv_invV4 (k := 32) (d' := 3) (pc := 25) pcv_X0_84 (by decide) rfl (Nat.le_of_ble_eq_true rfl) (by decide) (fm_dec dtX0_letDie 17 rfl) ?_
    refine c_xcost hD hX hL hs ho hi g48 (fun M25 r25 g25 h25 e25 => ?_)
    refine pv_then1 ?_
    have hs25 : xst M25 D S := hs.low g25 h25
    have hL9 : (M.2 47 6 + r25).toInt = S.1.2.2.2.2.2 + coS D cs S i := (by have h9 := coS_b (cs := cs) (S := S) hD hi; have p8 := pop8_le _ ho.2.2.1; have l1 := ho.2.2.2.2.1; have l2 := ho.2.2.2.2.2.1; rw [Int64.toInt_add, hs.2.2.2.2.2.1, e25]; exact Int.bmod_eq_of_le (by omega) (by omega))
    refine pv_ladd (pc := 28) (fm_dec dtX0_letDie 18 rfl) ?_
    refine pv_putJ (k := 47) (j := 6) (ci := 6) (pc := 29) pfl_X0_118 (by decide) rfl (by decide) (fm_dec dtX0_letDie 19 rfl) ?_
    refine pv_aloadn (pc := 32) (n := 1) 1 rfl rfl (fm_dec dtX0_letDie 20 rfl) ?_
    refine pv_getR (k := 47) (j := 0) (ci := 6) (pc := 33) 48 rfl (by decide) pfl_X0_78 (by decide) rfl (by decide) (fm_dec dtX0_letDie 21 rfl) ?_
    refine pv_iloadn (pc := 36) (n := 2) 2 rfl rfl (fm_dec dtX0_letDie 22 rfl) ?_
    refine pv_iald (k := 48) (n := 8) (pc := 37) (by decide) rfl rfl (ix_in hi9 (by omega)) (fm_dec dtX0_letDie 23 rfl) ?_
    rw [i32_cl hi9]
    have g48b : (M25.1 48 i).toInt = S.2 i := hs25.2.2.2.2.2.2 i hi
    obtain ⟨S9, e9, h9⟩ := di_st (L := M.2 47 6 + r25) (cs := cs) hD hs25 ho hi (by cases h8 : S.1.2.2.1.testBit i with | false => rfl | true => rw [h8] at hc5; exact absurd rfl hc5) hL9
    have f9 : sFr M (diM M25 (M.2 47 6 + r25) i (decide (S.2 i = -1))) := di_fr ⟨fun k j a b c => g25 k j a, fun k j a => by rw [h25]⟩
    refine pv_iconst (pc := 38) (v := (-1)) (by decide) (fm_dec dtX0_letDie 24 rfl) ?_
    refine pv_icmp_ne (pc := 39) 69 (by decide) (fm_dec dtX0_letDie 25 rfl) (fun hc39 => ?_) (fun hc39 => ?_)
    · refine pv_aloadn (pc := 69) (n := 1) 1 rfl rfl (fm_dec dtX0_letDie 41 rfl) ?_
      refine pv_dup (pc := 70) rfl (fm_dec dtX0_letDie 42 rfl) ?_
      refine pv_getI (k := 47) (j := 5) (ci := 6) (pc := 71) pfl_X0_128 (by decide) rfl (by decide) (fm_dec dtX0_letDie 43 rfl) ?_
      refine pv_iconst (pc := 74) (v := 1) (by decide) (fm_dec dtX0_letDie 44 rfl) ?_
      refine pv_iadd (pc := 75) (fm_dec dtX0_letDie 45 rfl) ?_
      refine pv_putI (k := 47) (j := 5) (ci := 6) (pc := 76) pfl_X0_128 (by decide) rfl (by decide) (fm_dec dtX0_letDie 46 rfl) ?_
      refine pv_aloadn (pc := 79) (n := 1) 1 rfl rfl (fm_dec dtX0_letDie 47 rfl) ?_
      refine pv_getR (k := 47) (j := 0) (ci := 6) (pc := 80) 48 rfl (by decide) pfl_X0_78 (by decide) rfl (by decide) (fm_dec dtX0_letDie 48 rfl) ?_
      refine pv_iloadn (pc := 83) (n := 2) 2 rfl rfl (fm_dec dtX0_letDie 49 rfl) ?_
      refine pv_iconst (pc := 84) (v := (-1)) (by decide) (fm_dec dtX0_letDie 50 rfl) ?_
      refine pv_iast (k := 48) (n := 8) (pc := 85) (by decide) rfl rfl (ix_in hi9 (by omega)) (fm_dec dtX0_letDie 51 rfl) ?_
      rw [i32_cl hi9]
      refine pv_aloadn (pc := 86) (n := 1) 1 rfl rfl (fm_dec dtX0_letDie 52 rfl) ?_
      refine pv_dup (pc := 87) rfl (fm_dec dtX0_letDie 53 rfl) ?_
      refine pv_getI (k := 47) (j := 1) (ci := 6) (pc := 88) pfl_X0_131 (by decide) rfl (by decide) (fm_dec dtX0_letDie 54 rfl) ?_
      refine pv_iconst (pc := 91) (v := 1) (by decide) (fm_dec dtX0_letDie 55 rfl) ?_
      refine pv_iloadn (pc := 92) (n := 2) 2 rfl rfl (fm_dec dtX0_letDie 56 rfl) ?_
      refine pv_ishl (pc := 93) (fm_dec dtX0_letDie 57 rfl) ?_
      refine pv_ior (pc := 94) (fm_dec dtX0_letDie 58 rfl) ?_
      refine pv_putI (k := 47) (j := 1) (ci := 6) (pc := 95) pfl_X0_131 (by decide) rfl (by decide) (fm_dec dtX0_letDie 59 rfl) ?_
      refine pv_iconst (pc := 98) (v := 1) (by decide) (fm_dec dtX0_letDie 60 rfl) ?_
      exact pv_zreturn (pc := 99) rfl (by first | exact Or.inr rfl | exact Or.inl rfl) (fm_dec dtX0_letDie 61 rfl) (by have hm : ¬ S.2 i = -1 := (fun h8 => hc39 (i32_ext (by show (M25.1 48 i).toInt = _; omega))); have e8 : diM M25 (M.2 47 6 + r25) i (decide (S.2 i = -1)) = fmI (fmI (fmI (fmJ M25 47 6 (M.2 47 6 + r25)) 47 5 (M25.1 47 5 + 1)) 48 i (-1)) 47 1 (M25.1 47 1 ||| 1 <<< (nI i &&& 31)) := (by unfold diM; rw [if_neg (by rw [decide_eq_true_eq]; exact hm)]); rw [e8] at h9 f9; exact hq _ S9 e9 h9 f9)
    · refine pv_aloadn (pc := 42) (n := 1) 1 rfl rfl (fm_dec dtX0_letDie 26 rfl) ?_
      refine pv_dup (pc := 43) rfl (fm_dec dtX0_letDie 27 rfl) ?_
      refine pv_getI (k := 47) (j := 4) (ci := 6) (pc := 44) pfl_X0_122 (by decide) rfl (by decide) (fm_dec dtX0_letDie 28 rfl) ?_
      refine pv_iconst (pc := 47) (v := 1) (by decide) (fm_dec dtX0_letDie 29 rfl) ?_
      refine pv_iadd (pc := 48) (fm_dec dtX0_letDie 30 rfl) ?_
      refine pv_putI (k := 47) (j := 4) (ci := 6) (pc := 49) pfl_X0_122 (by decide) rfl (by decide) (fm_dec dtX0_letDie 31 rfl) ?_
      refine pv_aloadn (pc := 52) (n := 1) 1 rfl rfl (fm_dec dtX0_letDie 32 rfl) ?_
      refine pv_iconst (pc := 53) (v := 0) (by decide) (fm_dec dtX0_letDie 33 rfl) ?_
      refine pv_aloadn (pc := 54) (n := 1) 1 rfl rfl (fm_dec dtX0_letDie 34 rfl) ?_
      refine pv_getI (k := 47) (j := 3) (ci := 6) (pc := 55) pfl_X0_116 (by decide) rfl (by decide) (fm_dec dtX0_letDie 35 rfl) ?_
      refine pv_iconst (pc := 58) (v := 2) (by decide) (fm_dec dtX0_letDie 36 rfl) ?_
      refine pv_isub (pc := 59) (fm_dec dtX0_letDie 37 rfl) ?_
      refine pv_mm (pc := 60) pmm_X0_125 (by decide) (Nat.le_of_ble_eq_true rfl) (fm_dec dtX0_letDie 38 rfl) ?_
      refine pv_putI (k := 47) (j := 3) (ci := 6) (pc := 63) pfl_X0_116 (by decide) rfl (by decide) (fm_dec dtX0_letDie 39 rfl) ?_
      refine pv_goto (pc := 66) 86 (by decide) (fm_dec dtX0_letDie 40 rfl) ?_
      refine pv_aloadn (pc := 86) (n := 1) 1 rfl rfl (fm_dec dtX0_letDie 52 rfl) ?_
      refine pv_dup (pc := 87) rfl (fm_dec dtX0_letDie 53 rfl) ?_
      refine pv_getI (k := 47) (j := 1) (ci := 6) (pc := 88) pfl_X0_131 (by decide) rfl (by decide) (fm_dec dtX0_letDie 54 rfl) ?_
      refine pv_iconst (pc := 91) (v := 1) (by decide) (fm_dec dtX0_letDie 55 rfl) ?_
      refine pv_iloadn (pc := 92) (n := 2) 2 rfl rfl (fm_dec dtX0_letDie 56 rfl) ?_
      refine pv_ishl (pc := 93) (fm_dec dtX0_letDie 57 rfl) ?_
      refine pv_ior (pc := 94) (fm_dec dtX0_letDie 58 rfl) ?_
      refine pv_putI (k := 47) (j := 1) (ci := 6) (pc := 95) pfl_X0_131 (by decide) rfl (by decide) (fm_dec dtX0_letDie 59 rfl) ?_
      refine pv_iconst (pc := 98) (v := 1) (by decide) (fm_dec dtX0_letDie 60 rfl) ?_
      exact pv_zreturn (pc := 99) rfl (by first | exact Or.inr rfl | exact Or.inl rfl) (fm_dec dtX0_letDie 61 rfl) (by have hm : S.2 i = -1 := (by have h8 := congrArg Int32.toInt hc39; have h7 : (M25.1 48 i).toInt = -1 := h8.trans zm; omega); have e8 : diM M25 (M.2 47 6 + r25) i (decide (S.2 i = -1)) = fmI (fmI (fmI (fmJ M25 47 6 (M.2 47 6 + r25)) 47 4 (M25.1 47 4 + 1)) 47 3 (pvMx true 0 (M25.1 47 3 - 2))) 47 1 (M25.1 47 1 ||| 1 <<< (nI i &&& 31)) := (by unfold diM; rw [if_pos (decide_eq_true hm)]); rw [e8] at h9 f9; exact hq _ S9 e9 h9 f9)
  · refine pv_iconst (pc := 8) (v := 0) (by decide) (fm_dec dtX0_letDie 4 rfl) ?_
    exact pv_zreturn (pc := 9) rfl (by first | exact Or.inr rfl | exact Or.inl rfl) (fm_dec dtX0_letDie 5 rfl) (hn (if_pos (by cases h8 : S.1.2.2.1.testBit i with | true => rfl | false => rw [h8] at hc5; exact absurd hc5 (by decide))))
/-- a week has passed for the first n lives -/
def wkP (D : dD) (S : aS) (n : Nat) (M0 M : fmM) : Prop := (M.1 47 1 = M0.1 47 1 ∧ M.1 47 2 = M0.1 47 2 ∧ M.1 47 3 = M0.1 47 3 ∧ M.1 47 4 = M0.1 47 4 ∧ M.1 47 5 = M0.1 47 5 ∧ M.2 = M0.2) ∧ (∀ i, i < D.1 → (M.1 48 i).toInt = if i < n then (if S.2 i = -1 then -1 else S.2 i + 1) else S.2 i) ∧ ∀ k j, k ≠ 47 → k ≠ 48 → M.1 k j = M0.1 k j
set_option maxRecDepth 20000 in
theorem xwe_loop {Q : fmR → fmM → Prop} {M0 : fmM} {D : dD} {S : aS} (hD : dOk D) (hX : xdw 3 M0 D) (ho : stO D S) (hq : ∀ M' : fmM, wkP D S D.1 M0 M' → Q (.inl (some (.int 1))) M') : ∀ (m : Nat) (n : Nat) (M : fmM), n ≤ D.1 → D.1 - n = m → wkP D S n M0 M → pvEv Tx 0 qX0_passWeek 35 [some (.ref 32), some (.ref 47), some (.int (nI n))] [] M Q := by
  intro m
  induction m using Nat.strongRecOn with
  | _ m ih =>
    intro n M hnD hm hP
    have d8 := hD.1
    have hn9 : (nI n).toInt = (n : Int) := nI_toInt (by omega)
    refine pv_iloadn (pc := 35) (n := 2) 2 rfl rfl (fm_dec dtX0_passWeek 19 rfl) ?_
    refine pv_aloadn (pc := 36) (n := 0) 0 rfl rfl (fm_dec dtX0_passWeek 20 rfl) ?_
    refine pv_getR (k := 32) (j := 0) (ci := 0) (pc := 37) 3 rfl (by decide) pfl_X0_15 (by decide) rfl (by decide) (fm_dec dtX0_passWeek 21 rfl) ?_
    refine pv_getI (k := 3) (j := 9) (ci := 8) (pc := 40) pfl_X0_75 (by decide) rfl (by decide) (fm_dec dtX0_passWeek 22 rfl) ?_
    refine pv_icmp_ge (pc := 43) 72 (by decide) (fm_dec dtX0_passWeek 23 rfl) (fun hc43 => ?_) (fun hc43 => ?_)
    · refine pv_iconst (pc := 72) (v := 1) (by decide) (fm_dec dtX0_passWeek 40 rfl) ?_
      exact pv_zreturn (pc := 73) rfl (by first | exact Or.inr rfl | exact Or.inl rfl) (fm_dec dtX0_passWeek 41 rfl) (hq M (by have e9 : n = D.1 := (by have h9 : (M.1 3 9).toInt = (D.1 : Int) := (by rw [hP.2.2 3 9 (by decide) (by decide)]; exact hX.1.1); rw [sc_le] at hc43; omega); subst e9; exact hP))
    · have hn : n < D.1 := (by have h9 : (M.1 3 9).toInt = (D.1 : Int) := (by rw [hP.2.2 3 9 (by decide) (by decide)]; exact hX.1.1); rw [sc_le] at hc43; omega)
      have g48 := hP.2.1 n hn
      rw [if_neg (Nat.lt_irrefl n)] at g48
      have bs := ho.2.2.2.2.2.2.1 n hn
      have w2 := ho.1
      refine pv_aloadn (pc := 46) (n := 1) 1 rfl rfl (fm_dec dtX0_passWeek 24 rfl) ?_
      refine pv_getR (k := 47) (j := 0) (ci := 6) (pc := 47) 48 rfl (by decide) pfl_X0_78 (by decide) rfl (by decide) (fm_dec dtX0_passWeek 25 rfl) ?_
      refine pv_iloadn (pc := 50) (n := 2) 2 rfl rfl (fm_dec dtX0_passWeek 26 rfl) ?_
      refine pv_iald (k := 48) (n := 8) (pc := 51) (by decide) rfl rfl (ix_in hn9 (by omega)) (fm_dec dtX0_passWeek 27 rfl) ?_
      rw [i32_cl hn9]
      refine pv_iconst (pc := 52) (v := (-1)) (by decide) (fm_dec dtX0_passWeek 28 rfl) ?_
      refine pv_icmp_eq (pc := 53) 66 (by decide) (fm_dec dtX0_passWeek 29 rfl) (fun hc53 => ?_) (fun hc53 => ?_)
      · refine pv_iincc (pc := 66) 2 1 (by decide) rfl (by decide) rfl (fm_dec dtX0_passWeek 38 rfl) ?_
        dsimp only [List.set_cons_zero, List.set_cons_succ]
        refine pv_goto (pc := 69) 35 (by decide) (fm_dec dtX0_passWeek 39 rfl) ?_
        have hm : S.2 n = -1 := (by have h9 := congrArg Int32.toInt hc53; have zm : (-1 : Int32).toInt = -1 := (by decide); omega)
        rw [nI_succ1]
        exact ih (D.1 - (n + 1)) (by omega) (n + 1) _ (by omega) rfl ⟨hP.1, fun i hi => (by by_cases e : i = n; (subst e; rw [if_pos (Nat.lt_succ_self _), if_pos hm]; omega); (rw [hP.2.1 i hi]; by_cases e2 : i < n; rw [if_pos e2, if_pos (show i < n + 1 by omega)]; rw [if_neg e2, if_neg (show ¬ i < n + 1 by omega)])), hP.2.2⟩
      · refine pv_aloadn (pc := 56) (n := 1) 1 rfl rfl (fm_dec dtX0_passWeek 30 rfl) ?_
        refine pv_getR (k := 47) (j := 0) (ci := 6) (pc := 57) 48 rfl (by decide) pfl_X0_78 (by decide) rfl (by decide) (fm_dec dtX0_passWeek 31 rfl) ?_
        refine pv_iloadn (pc := 60) (n := 2) 2 rfl rfl (fm_dec dtX0_passWeek 32 rfl) ?_
        refine pv_dup2 (pc := 61) rfl rfl (fm_dec dtX0_passWeek 33 rfl) ?_
        refine pv_iald (k := 48) (n := 8) (pc := 62) (by decide) rfl rfl (ix_in hn9 (by omega)) (fm_dec dtX0_passWeek 34 rfl) ?_
        rw [i32_cl hn9]
        refine pv_iconst (pc := 63) (v := 1) (by decide) (fm_dec dtX0_passWeek 35 rfl) ?_
        refine pv_iadd (pc := 64) (fm_dec dtX0_passWeek 36 rfl) ?_
        refine pv_iast (k := 48) (n := 8) (pc := 65) (by decide) rfl rfl (ix_in hn9 (by omega)) (fm_dec dtX0_passWeek 37 rfl) ?_
        rw [i32_cl hn9]
        refine pv_iincc (pc := 66) 2 1 (by decide) rfl (by decide) rfl (fm_dec dtX0_passWeek 38 rfl) ?_
        dsimp only [List.set_cons_zero, List.set_cons_succ]
        refine pv_goto (pc := 69) 35 (by decide) (fm_dec dtX0_passWeek 39 rfl) ?_
        have hm : ¬ S.2 n = -1 := (fun h9 => hc53 (i32_ext (by have zm : (-1 : Int32).toInt = -1 := (by decide); omega)))
        rw [nI_succ1]
        exact ih (D.1 - (n + 1)) (by omega) (n + 1) _ (by omega) rfl ⟨⟨hP.1.1, hP.1.2.1, hP.1.2.2.1, hP.1.2.2.2.1, hP.1.2.2.2.2.1, hP.1.2.2.2.2.2⟩, fun i hi => (by rw [fmI_at]; by_cases e : i = n; (subst e; rw [if_pos ⟨rfl, rfl⟩, if_pos (Nat.lt_succ_self _), if_neg hm]; have z1 : (1 : Int32).toInt = 1 := (by decide); rw [sc_add (by omega) (by omega)]; omega); (rw [if_neg (by omega), hP.2.1 i hi]; by_cases e2 : i < n; rw [if_pos e2, if_pos (show i < n + 1 by omega)]; rw [if_neg e2, if_neg (show ¬ i < n + 1 by omega)])), fun k j a b => (by rw [fmI_k _ _ b]; exact hP.2.2 k j a b)⟩
set_option maxRecDepth 20000 in
theorem c_xweek {M : fmM} {Q : fmR → fmM → Prop} {D : dD} {S : aS} (hD : dOk D) (hX : xdw 3 M D) (hs : xst M D S) (ho : stO D S) (hn : weS D S = none → Q (.inl (some (.int 0))) M) (hq : ∀ (M' : fmM) (S' : aS), weS D S = some S' → xst M' D S' → sFr M M' → Q (.inl (some (.int 1))) M') : pvGood Tx 0 qX0_passWeek [.ref 32, .ref 47] M Q := by
  refine pvGood_of (Nat.le_of_ble_eq_true rfl) ?_
  show pvEv Tx 0 qX0_passWeek 0 [some (.ref 32), some (.ref 47), none] [] M Q
  have z200 : (200 : Int32).toInt = 200 := (by decide)
  have g2 := hs.2.1
  have w2 := ho.1
  have b2 := hD.2.2.2.2.1
  refine pv_aloadn (pc := 0) (n := 1) 1 rfl rfl (fm_dec dtX0_passWeek 0 rfl) ?_
  refine pv_getI (k := 47) (j := 2) (ci := 6) (pc := 1) pfl_X0_29 (by decide) rfl (by decide) (fm_dec dtX0_passWeek 1 rfl) ?_
  refine pv_sipush (pc := 4) (v := 200) (by decide) (fm_dec dtX0_passWeek 2 rfl) ?_
  refine pv_icmp_lt (pc := 7) 12 (by decide) (fm_dec dtX0_passWeek 3 rfl) (fun hc7 => ?_) (fun hc7 => ?_)
  · refine pv_aloadn (pc := 12) (n := 1) 1 rfl rfl (fm_dec dtX0_passWeek 6 rfl) ?_
    refine pv_dup (pc := 13) rfl (fm_dec dtX0_passWeek 7 rfl) ?_
    refine pv_getI (k := 47) (j := 2) (ci := 6) (pc := 14) pfl_X0_29 (by decide) rfl (by decide) (fm_dec dtX0_passWeek 8 rfl) ?_
    refine pv_iconst (pc := 17) (v := 1) (by decide) (fm_dec dtX0_passWeek 9 rfl) ?_
    refine pv_iadd (pc := 18) (fm_dec dtX0_passWeek 10 rfl) ?_
    refine pv_putI (k := 47) (j := 2) (ci := 6) (pc := 19) pfl_X0_29 (by decide) rfl (by decide) (fm_dec dtX0_passWeek 11 rfl) ?_
    refine pv_aloadn (pc := 22) (n := 1) 1 rfl rfl (fm_dec dtX0_passWeek 12 rfl) ?_
    refine pv_aloadn (pc := 23) (n := 0) 0 rfl rfl (fm_dec dtX0_passWeek 13 rfl) ?_
    refine pv_getR (k := 32) (j := 0) (ci := 0) (pc := 24) 3 rfl (by decide) pfl_X0_15 (by decide) rfl (by decide) (fm_dec dtX0_passWeek 14 rfl) ?_
    refine pv_getI (k := 3) (j := 11) (ci := 8) (pc := 27) pfl_X0_134 (by decide) rfl (by decide) (fm_dec dtX0_passWeek 15 rfl) ?_
    refine pv_putI (k := 47) (j := 3) (ci := 6) (pc := 30) pfl_X0_116 (by decide) rfl (by decide) (fm_dec dtX0_passWeek 16 rfl) ?_
    refine pv_iconst (pc := 33) (v := 0) (by decide) (fm_dec dtX0_passWeek 17 rfl) ?_
    refine pv_istoren (pc := 34) (n := 2) 2 rfl (by decide) rfl (fm_dec dtX0_passWeek 18 rfl) ?_
    dsimp only [List.set_cons_zero, List.set_cons_succ]
    have hlt : S.1.1 < 200 := (by rw [sc_lt] at hc7; omega)
    refine xwe_loop (M0 := fmI (fmI M 47 2 (M.1 47 2 + 1)) 47 3 (M.1 3 11)) (S := S) hD (hX.of (fun k j a b => by rw [fmI_k _ _ (by omega), fmI_k _ _ (by omega)])) ho (fun M' hP => ?_) D.1 0 _ (by omega) (by omega) ⟨⟨rfl, rfl, rfl, rfl, rfl, rfl⟩, fun i hi => (by rw [if_neg (Nat.not_lt_zero i)]; exact hs.2.2.2.2.2.2 i hi), fun k j a b => rfl⟩
    refine hq M' _ (if_neg (by omega)) ⟨by rw [hP.1.1]; exact hs.1, ?_, ?_, by rw [hP.1.2.2.2.1]; exact hs.2.2.2.1, by rw [hP.1.2.2.2.2.1]; exact hs.2.2.2.2.1, by rw [hP.1.2.2.2.2.2]; exact hs.2.2.2.2.2.1, fun i hi => (by rw [hP.2.1 i hi, if_pos hi])⟩ ⟨fun k j _ a b => (by rw [hP.2.2 k j a b, fmI_k _ _ a, fmI_k _ _ a]), fun k j a => by rw [hP.1.2.2.2.2.2]; rfl⟩
    · rw [hP.1.2.1]
      show (M.1 47 2 + 1).toInt = ((S.1.1 + 1 : Nat) : Int)
      exact i32_p1 g2 (by omega)
    · rw [hP.1.2.2.1]
      show (M.1 3 11).toInt = (((D.2.2.2.2 2).toNat : Nat) : Int)
      have g11 : (M.1 3 11).toInt = D.2.2.2.2 2 := hX.1.2.2.1
      omega
  · refine pv_iconst (pc := 10) (v := 0) (by decide) (fm_dec dtX0_passWeek 4 rfl) ?_
    exact pv_zreturn (pc := 11) rfl (by first | exact Or.inr rfl | exact Or.inl rfl) (fm_dec dtX0_passWeek 5 rfl) (hn (if_pos (by rw [sc_lt] at hc7; omega)))
theorem do_ok {D : dD} {cs : tC} {S S' : aS} {k i : Nat} (hD : dOk D) (ho : stO D S) (hi : k < 3 → i < D.1) (h : doS D cs S k i = some S') : stO D S' := by
  obtain ⟨w2, h12, hd, hp, l1, l2, ha, hd2⟩ := ho
  have pu : ∀ S' : aS, i < D.1 → puS D S i = some S' → stO D S' := fun S' hi h => by
    unfold puS at h
    split at h
    · cases h
    · cases h
      refine ⟨w2, ?_, hd, hp, l1, l2, ⟨fun j hj => ?_, hd2⟩⟩
      · show S.1.2.1 - hoS D S i ≤ 12
        omega
      · show -1 ≤ (if j = i then (0 : Int) else S.2 j) ∧ (if j = i then (0 : Int) else S.2 j) ≤ (S.1.1 : Int) + 40
        have := ha j hj
        split <;> omega
  have di : ∀ S' : aS, i < D.1 → diS D cs S i = some S' → stO D S' := fun S' hi h => by
    have d8 := hD.1
    have hc := coS_b (cs := cs) (S := S) hD hi
    unfold diS at h
    split at h
    · cases h
    · rename_i ht
      have ht : S.1.2.2.1.testBit i = false := by simpa using ht
      have hpa := pop8_add _ hd i (by omega) ht
      have hd3 : S.1.2.2.1 ||| 1 <<< i < 2 ^ D.1 := Nat.or_lt_two_pow hd2 (by rw [Nat.shiftLeft_eq, Nat.one_mul]; exact Nat.pow_lt_pow_right (by decide) hi)
      split at h
      · cases h
        refine ⟨w2, ?_, hpa.2, ?_, ?_, ?_, ⟨fun j hj => ha j hj, hd3⟩⟩
        · show S.1.2.1 - 2 ≤ 12
          omega
        · show S.1.2.2.2.1 + 1 + S.1.2.2.2.2.1 = pop8 (S.1.2.2.1 ||| 1 <<< i)
          omega
        · show 0 ≤ S.1.2.2.2.2.2 + coS D cs S i
          omega
        · show S.1.2.2.2.2.2 + coS D cs S i ≤ 57024 * ((pop8 (S.1.2.2.1 ||| 1 <<< i) : Nat) : Int)
          rw [hpa.1]
          omega
      · cases h
        refine ⟨w2, h12, hpa.2, ?_, ?_, ?_, ⟨fun j hj => ?_, hd3⟩⟩
        · show S.1.2.2.2.1 + (S.1.2.2.2.2.1 + 1) = pop8 (S.1.2.2.1 ||| 1 <<< i)
          omega
        · show 0 ≤ S.1.2.2.2.2.2 + coS D cs S i
          omega
        · show S.1.2.2.2.2.2 + coS D cs S i ≤ 57024 * ((pop8 (S.1.2.2.1 ||| 1 <<< i) : Nat) : Int)
          rw [hpa.1]
          omega
        · show -1 ≤ (if j = i then (-1 : Int) else S.2 j) ∧ (if j = i then (-1 : Int) else S.2 j) ≤ (S.1.1 : Int) + 40
          have := ha j hj
          split <;> omega
  have we : ∀ S' : aS, weS D S = some S' → stO D S' := fun S' h => by
    have b2 := hD.2.2.2.2.1
    unfold weS at h
    split at h
    · cases h
    · cases h
      refine ⟨?_, ?_, hd, hp, l1, l2, ⟨fun j hj => ?_, hd2⟩⟩
      · show S.1.1 + 1 ≤ 200
        omega
      · show (D.2.2.2.2 2).toNat ≤ 12
        omega
      · show -1 ≤ (if S.2 j = -1 then (-1 : Int) else S.2 j + 1) ∧ (if S.2 j = -1 then (-1 : Int) else S.2 j + 1) ≤ ((S.1.1 + 1 : Nat) : Int) + 40
        have := ha j hj
        split <;> omega
  unfold doS at h
  split at h
  · split at h
    · exact pu S' (hi (by decide)) h
    · cases h
  · split at h
    · cases h
    · exact pu S' (hi (by decide)) h
  · exact di S' (hi (by decide)) h
  · exact we S' h
theorem pu_fr {M : fmM} {i : Nat} {h : Int32} : sFr M (puM2 M i h) := ((sFr.refl M).put (Or.inl rfl)).put (Or.inr rfl)
set_option maxRecDepth 20000 in
theorem c_xps0 {M : fmM} {Q : fmR → fmM → Prop} {D : dD} {cs : tC} {S : aS} {i : Nat} (hD : dOk D) (hX : xdw 3 M D) (hL : lwX M cs) (hs : xst M D S) (ho : stO D S) (hi : i < D.1) (hn : doS D cs S 0 i = none → Q (.inl (some (.int 0))) M) (hq : ∀ (M' : fmM) (S' : aS), doS D cs S 0 i = some S' → xst M' D S' → sFr M M' → Q (.inl (some (.int 1))) M') : pvGood Tx 5 qX9_performStep [.ref 32, .ref 47, .int 0, .int (nI i)] M Q := by
  refine pvGood_of (Nat.le_of_ble_eq_true rfl) ?_
  show pvEv Tx 5 qX9_performStep 0 [some (.ref 32), some (.ref 47), some (.int 0), some (.int (nI i))] [] M Q
  have d8 := hD.1
  have hi9 : (nI i).toInt = (i : Int) := nI_toInt (by omega)
  have g48 := hs.2.2.2.2.2.2 i hi
  have zm : (-1 : Int32).toInt = -1 := (by decide)
  refine pv_iloadn (pc := 0) (n := 2) 2 rfl rfl (fm_dec dtX9_performStep 0 rfl) ?_
  refine pv_table (pc := 1) 28 (by decide) rfl (fm_dec dtX9_performStep 1 rfl) ?_
  refine pv_aloadn (pc := 28) (n := 1) 1 rfl rfl (fm_dec dtX9_performStep 2 rfl) ?_
  refine pv_getR (k := 47) (j := 0) (ci := 6) (pc := 29) 48 rfl (by decide) pfl_X9_89 (by decide) rfl (by decide) (fm_dec dtX9_performStep 3 rfl) ?_
  refine pv_iloadn (pc := 32) (n := 3) 3 rfl rfl (fm_dec dtX9_performStep 4 rfl) ?_
  refine pv_iald (k := 48) (n := 8) (pc := 33) (by decide) rfl rfl (ix_in hi9 (by omega)) (fm_dec dtX9_performStep 5 rfl) ?_
  rw [i32_cl hi9]
  refine pv_iconst (pc := 34) (v := (-1)) (by decide) (fm_dec dtX9_performStep 6 rfl) ?_
  refine pv_icmp_ne (pc := 35) 51 (by decide) (fm_dec dtX9_performStep 7 rfl) (fun hc35 => ?_) (fun hc35 => ?_)
  · refine pv_iconst (pc := 51) (v := 0) (by decide) (fm_dec dtX9_performStep 15 rfl) ?_
    exact pv_zreturn (pc := 52) rfl (by first | exact Or.inr rfl | exact Or.inl rfl) (fm_dec dtX9_performStep 16 rfl) (hn (by have hm : ¬ S.2 i = -1 := (fun h8 => hc35 (i32_ext (by omega))); show (if S.2 i = -1 then puS D S i else none) = none; rw [if_neg hm]))
  · refine pv_aloadn (pc := 38) (n := 0) 0 rfl rfl (fm_dec dtX9_performStep 8 rfl) ?_
    refine pv_aloadn (pc := 39) (n := 1) 1 rfl rfl (fm_dec dtX9_performStep 9 rfl) ?_
    refine pv_iloadn (pc := 40) (n := 3) 3 rfl rfl (fm_dec dtX9_performStep 10 rfl) ?_
    refine pv_invV2 (k := 32) (d' := 3) (pc := 41) pcv_X9_94 (by decide) rfl (Nat.le_of_ble_eq_true rfl) (by decide) (fm_dec dtX9_performStep 11 rfl) ?_
    refine c_xput hD hX hs ho hi (fun hp => ?_) (fun S9 r9 hp h9 => ?_)
    · refine pv_then1 ?_
      refine pv_if_eq (pc := 44) 51 (by decide) (fm_dec dtX9_performStep 12 rfl) (fun _ => ?_) (fun hc44 => by exfalso; revert hc44; decide)
      refine pv_iconst (pc := 51) (v := 0) (by decide) (fm_dec dtX9_performStep 15 rfl) ?_
      exact pv_zreturn (pc := 52) rfl (by first | exact Or.inr rfl | exact Or.inl rfl) (fm_dec dtX9_performStep 16 rfl) (hn (by have hm : S.2 i = -1 := (by have h8 := congrArg Int32.toInt hc35; omega); show (if S.2 i = -1 then puS D S i else none) = _; rw [if_pos hm]; exact hp))
    · refine pv_then1 ?_
      refine pv_if_eq (pc := 44) 51 (by decide) (fm_dec dtX9_performStep 12 rfl) (fun hc44 => by exfalso; revert hc44; decide) (fun _ => ?_)
      refine pv_iconst (pc := 47) (v := 1) (by decide) (fm_dec dtX9_performStep 13 rfl) ?_
      refine pv_goto (pc := 48) 52 (by decide) (fm_dec dtX9_performStep 14 rfl) ?_
      exact pv_zreturn (pc := 52) rfl (by first | exact Or.inr rfl | exact Or.inl rfl) (fm_dec dtX9_performStep 16 rfl) (hq _ S9 (by have hm : S.2 i = -1 := (by have h8 := congrArg Int32.toInt hc35; omega); show (if S.2 i = -1 then puS D S i else none) = _; rw [if_pos hm]; exact hp) h9 pu_fr)
set_option maxRecDepth 20000 in
theorem c_xps1 {M : fmM} {Q : fmR → fmM → Prop} {D : dD} {cs : tC} {S : aS} {i : Nat} (hD : dOk D) (hX : xdw 3 M D) (hL : lwX M cs) (hs : xst M D S) (ho : stO D S) (hi : i < D.1) (hn : doS D cs S 1 i = none → Q (.inl (some (.int 0))) M) (hq : ∀ (M' : fmM) (S' : aS), doS D cs S 1 i = some S' → xst M' D S' → sFr M M' → Q (.inl (some (.int 1))) M') : pvGood Tx 5 qX9_performStep [.ref 32, .ref 47, .int 1, .int (nI i)] M Q := by
  refine pvGood_of (Nat.le_of_ble_eq_true rfl) ?_
  show pvEv Tx 5 qX9_performStep 0 [some (.ref 32), some (.ref 47), some (.int 1), some (.int (nI i))] [] M Q
  have d8 := hD.1
  have hi9 : (nI i).toInt = (i : Int) := nI_toInt (by omega)
  have g48 := hs.2.2.2.2.2.2 i hi
  have zm : (-1 : Int32).toInt = -1 := (by decide)
  refine pv_iloadn (pc := 0) (n := 2) 2 rfl rfl (fm_dec dtX9_performStep 0 rfl) ?_
  refine pv_table (pc := 1) 53 (by decide) rfl (fm_dec dtX9_performStep 1 rfl) ?_
  refine pv_aloadn (pc := 53) (n := 1) 1 rfl rfl (fm_dec dtX9_performStep 17 rfl) ?_
  refine pv_getR (k := 47) (j := 0) (ci := 6) (pc := 54) 48 rfl (by decide) pfl_X9_89 (by decide) rfl (by decide) (fm_dec dtX9_performStep 18 rfl) ?_
  refine pv_iloadn (pc := 57) (n := 3) 3 rfl rfl (fm_dec dtX9_performStep 19 rfl) ?_
  refine pv_iald (k := 48) (n := 8) (pc := 58) (by decide) rfl rfl (ix_in hi9 (by omega)) (fm_dec dtX9_performStep 20 rfl) ?_
  rw [i32_cl hi9]
  refine pv_iconst (pc := 59) (v := (-1)) (by decide) (fm_dec dtX9_performStep 21 rfl) ?_
  refine pv_icmp_eq (pc := 60) 76 (by decide) (fm_dec dtX9_performStep 22 rfl) (fun hc60 => ?_) (fun hc60 => ?_)
  · refine pv_iconst (pc := 76) (v := 0) (by decide) (fm_dec dtX9_performStep 30 rfl) ?_
    exact pv_zreturn (pc := 77) rfl (by first | exact Or.inr rfl | exact Or.inl rfl) (fm_dec dtX9_performStep 31 rfl) (hn (by have hm : S.2 i = -1 := (by have h8 := congrArg Int32.toInt hc60; omega); show (if S.2 i = -1 then none else puS D S i) = none; rw [if_pos hm]))
  · refine pv_aloadn (pc := 63) (n := 0) 0 rfl rfl (fm_dec dtX9_performStep 23 rfl) ?_
    refine pv_aloadn (pc := 64) (n := 1) 1 rfl rfl (fm_dec dtX9_performStep 24 rfl) ?_
    refine pv_iloadn (pc := 65) (n := 3) 3 rfl rfl (fm_dec dtX9_performStep 25 rfl) ?_
    refine pv_invV2 (k := 32) (d' := 3) (pc := 66) pcv_X9_94 (by decide) rfl (Nat.le_of_ble_eq_true rfl) (by decide) (fm_dec dtX9_performStep 26 rfl) ?_
    refine c_xput hD hX hs ho hi (fun hp => ?_) (fun S9 r9 hp h9 => ?_)
    · refine pv_then1 ?_
      refine pv_if_eq (pc := 69) 76 (by decide) (fm_dec dtX9_performStep 27 rfl) (fun _ => ?_) (fun hc69 => by exfalso; revert hc69; decide)
      refine pv_iconst (pc := 76) (v := 0) (by decide) (fm_dec dtX9_performStep 30 rfl) ?_
      exact pv_zreturn (pc := 77) rfl (by first | exact Or.inr rfl | exact Or.inl rfl) (fm_dec dtX9_performStep 31 rfl) (hn (by have hm : ¬ S.2 i = -1 := (fun h8 => hc60 (i32_ext (by omega))); show (if S.2 i = -1 then none else puS D S i) = _; rw [if_neg hm]; exact hp))
    · refine pv_then1 ?_
      refine pv_if_eq (pc := 69) 76 (by decide) (fm_dec dtX9_performStep 27 rfl) (fun hc69 => by exfalso; revert hc69; decide) (fun _ => ?_)
      refine pv_iconst (pc := 72) (v := 1) (by decide) (fm_dec dtX9_performStep 28 rfl) ?_
      refine pv_goto (pc := 73) 77 (by decide) (fm_dec dtX9_performStep 29 rfl) ?_
      exact pv_zreturn (pc := 77) rfl (by first | exact Or.inr rfl | exact Or.inl rfl) (fm_dec dtX9_performStep 31 rfl) (hq _ S9 (by have hm : ¬ S.2 i = -1 := (fun h8 => hc60 (i32_ext (by omega))); show (if S.2 i = -1 then none else puS D S i) = _; rw [if_neg hm]; exact hp) h9 pu_fr)
set_option maxRecDepth 20000 in
theorem c_xps2 {M : fmM} {Q : fmR → fmM → Prop} {D : dD} {cs : tC} {S : aS} {i : Nat} (hD : dOk D) (hX : xdw 3 M D) (hL : lwX M cs) (hs : xst M D S) (ho : stO D S) (hi : i < D.1) (hn : doS D cs S 2 i = none → Q (.inl (some (.int 0))) M) (hq : ∀ (M' : fmM) (S' : aS), doS D cs S 2 i = some S' → xst M' D S' → sFr M M' → Q (.inl (some (.int 1))) M') : pvGood Tx 5 qX9_performStep [.ref 32, .ref 47, .int 2, .int (nI i)] M Q := by
  refine pvGood_of (Nat.le_of_ble_eq_true rfl) ?_
  show pvEv Tx 5 qX9_performStep 0 [some (.ref 32), some (.ref 47), some (.int 2), some (.int (nI i))] [] M Q
  refine pv_iloadn (pc := 0) (n := 2) 2 rfl rfl (fm_dec dtX9_performStep 0 rfl) ?_
  refine pv_table (pc := 1) 78 (by decide) rfl (fm_dec dtX9_performStep 1 rfl) ?_
  refine pv_aloadn (pc := 78) (n := 0) 0 rfl rfl (fm_dec dtX9_performStep 32 rfl) ?_
  refine pv_aloadn (pc := 79) (n := 1) 1 rfl rfl (fm_dec dtX9_performStep 33 rfl) ?_
  refine pv_iloadn (pc := 80) (n := 3) 3 rfl rfl (fm_dec dtX9_performStep 34 rfl) ?_
  refine pv_invV2 (k := 32) (d' := 4) (pc := 81) pcv_X9_100 (by decide) rfl (Nat.le_of_ble_eq_true rfl) (by decide) (fm_dec dtX9_performStep 35 rfl) ?_
  refine c_xdie hD hX hL hs ho hi (fun hp => ?_) (fun M9 S9 hp h9 f9 => ?_)
  · refine pv_then1 ?_
    exact pv_zreturn (pc := 84) rfl (by first | exact Or.inr rfl | exact Or.inl rfl) (fm_dec dtX9_performStep 36 rfl) (hn hp)
  · refine pv_then1 ?_
    exact pv_zreturn (pc := 84) rfl (by first | exact Or.inr rfl | exact Or.inl rfl) (fm_dec dtX9_performStep 36 rfl) (hq M9 S9 hp h9 f9)
set_option maxRecDepth 20000 in
theorem c_xps3 {M : fmM} {Q : fmR → fmM → Prop} {D : dD} {cs : tC} {S : aS} {i : Nat} (hD : dOk D) (hX : xdw 3 M D) (hL : lwX M cs) (hs : xst M D S) (ho : stO D S) (hn : doS D cs S 3 i = none → Q (.inl (some (.int 0))) M) (hq : ∀ (M' : fmM) (S' : aS), doS D cs S 3 i = some S' → xst M' D S' → sFr M M' → Q (.inl (some (.int 1))) M') : pvGood Tx 5 qX9_performStep [.ref 32, .ref 47, .int 3, .int (nI i)] M Q := by
  refine pvGood_of (Nat.le_of_ble_eq_true rfl) ?_
  show pvEv Tx 5 qX9_performStep 0 [some (.ref 32), some (.ref 47), some (.int 3), some (.int (nI i))] [] M Q
  refine pv_iloadn (pc := 0) (n := 2) 2 rfl rfl (fm_dec dtX9_performStep 0 rfl) ?_
  refine pv_table (pc := 1) 85 (by decide) rfl (fm_dec dtX9_performStep 1 rfl) ?_
  refine pv_aloadn (pc := 85) (n := 0) 0 rfl rfl (fm_dec dtX9_performStep 37 rfl) ?_
  refine pv_aloadn (pc := 86) (n := 1) 1 rfl rfl (fm_dec dtX9_performStep 38 rfl) ?_
  refine pv_invV1 (k := 32) (d' := 0) (pc := 87) pcv_X9_103 (by decide) rfl (Nat.le_of_ble_eq_true rfl) (by decide) (fm_dec dtX9_performStep 39 rfl) ?_
  refine c_xweek hD hX hs ho (fun hp => ?_) (fun M9 S9 hp h9 f9 => ?_)
  · refine pv_then1 ?_
    exact pv_zreturn (pc := 90) rfl (by first | exact Or.inr rfl | exact Or.inl rfl) (fm_dec dtX9_performStep 40 rfl) (hn hp)
  · refine pv_then1 ?_
    exact pv_zreturn (pc := 90) rfl (by first | exact Or.inr rfl | exact Or.inl rfl) (fm_dec dtX9_performStep 40 rfl) (hq M9 S9 hp h9 f9)
theorem c_xps {M : fmM} {Q : fmR → fmM → Prop} {D : dD} {cs : tC} {S : aS} {k i : Nat} {x z : Int32} (hx : x.toInt = (k : Int)) (hz : z.toInt = (i : Int)) (hk : k < 4) (hi8 : i < 1000) (hD : dOk D) (hX : xdw 3 M D) (hL : lwX M cs) (hs : xst M D S) (ho : stO D S) (hi : k < 3 → i < D.1) (hn : doS D cs S k i = none → Q (.inl (some (.int 0))) M) (hq : ∀ (M' : fmM) (S' : aS), doS D cs S k i = some S' → xst M' D S' → sFr M M' → Q (.inl (some (.int 1))) M') : pvGood Tx 5 qX9_performStep [.ref 32, .ref 47, .int x, .int z] M Q := by
  have ez : z = nI i := nI_is hz (by omega)
  subst ez
  match k, hk, hx, hi, hn, hq with
  | 0, _, hx, hi, hn, hq =>
    have ex : x = 0 := i32_ext (hx.trans (by decide))
    subst ex
    exact c_xps0 hD hX hL hs ho (hi (by decide)) hn hq
  | 1, _, hx, hi, hn, hq =>
    have ex : x = 1 := i32_ext (hx.trans (by decide))
    subst ex
    exact c_xps1 hD hX hL hs ho (hi (by decide)) hn hq
  | 2, _, hx, hi, hn, hq =>
    have ex : x = 2 := i32_ext (hx.trans (by decide))
    subst ex
    exact c_xps2 hD hX hL hs ho (hi (by decide)) hn hq
  | 3, _, hx, hi, hn, hq =>
    have ex : x = 3 := i32_ext (hx.trans (by decide))
    subst ex
    exact c_xps3 hD hX hL hs ho hn hq
  | k + 4, h, _, _, _, _ => omega
end
-- P 18xa
section
-- THE REFERENCE'S STATE
def mst (M : fmM) (D : dD) (S : aS) : Prop := (M.1 7 0).toInt = (S.1.2.2.1 : Int) ∧ (M.1 7 10).toInt = (S.1.1 : Int) ∧ (M.1 7 9).toInt = (S.1.2.1 : Int) ∧ (M.1 7 11).toInt = (S.1.2.2.2.1 : Int) ∧ (M.1 7 12).toInt = (S.1.2.2.2.2.1 : Int) ∧ (M.1 7 13).toInt = S.1.2.2.2.2.2 ∧ ∀ i, i < D.1 → (M.1 7 (1 + i)).toInt = if S.2 i = -1 then -1000 else (S.1.1 : Int) - S.2 i
theorem mst.of {M M' : fmM} {D : dD} {S : aS} (h : mst M D S) (e : ∀ j, M'.1 7 j = M.1 7 j) : mst M' D S := by
  obtain ⟨a, b, c, d, e1, f, g⟩ := h
  exact ⟨by rw [e]; exact a, by rw [e]; exact b, by rw [e]; exact c, by rw [e]; exact d, by rw [e]; exact e1, by rw [e]; exact f, fun i hi => by rw [e]; exact g i hi⟩
theorem mst.no {M : fmM} {D : dD} {S : aS} {i : Nat} (h : mst M D S) (ho : stO D S) (hi : i < D.1) : M.1 7 (1 + i) = -1000 ↔ S.2 i = -1 := by
  have h9 := h.2.2.2.2.2.2 i hi
  have b := ho.2.2.2.2.2.2.1 i hi
  have zm : (-1000 : Int32).toInt = -1000 := by decide
  constructor
  · intro e
    rw [e, zm] at h9
    split at h9
    · assumption
    · omega
  · intro e
    rw [if_pos e] at h9
    exact i32_ext (h9.trans zm.symm)
theorem mdw.k {M M' : fmM} {D : dD} (h : mdw M D) (hD : dOk D) (e : ∀ k j, k = 4 ∨ (35 ≤ k ∧ k < 43) ∨ (67 ≤ k ∧ k < 91) → M'.1 k j = M.1 k j) : mdw M' D := by
  have d8 := hD.1
  have d24 := hD.2.1
  refine ⟨by rw [e _ _ (Or.inl rfl)]; exact h.1, by rw [e _ _ (Or.inl rfl)]; exact h.2.1, fun k a b => by rw [e _ _ (Or.inl rfl)]; exact h.2.2.1 k a b, fun i hi j hj => by rw [e _ _ (by omega)]; exact h.2.2.2.1 i hi j hj, fun i hi j hj => by rw [e _ _ (by omega)]; exact h.2.2.2.2 i hi j hj⟩
set_option maxRecDepth 20000 in
theorem mcg_loop {Q : fmR → fmM → Prop} {M : fmM} {li a b : Int32} {D : dD} (hD : dOk D) (hY : mdw M D) : ∀ (m : Nat) (n : Nat) (i : Int32), i.toInt = (n : Int) → n ≤ D.2.2.1 → D.2.2.1 - n = m → Q (.inl (some (.int (nI (cgA D li.toInt a.toInt b.toInt))))) M → pvEv Tm 0 qX11_changesOf 6 [some (.ref 0), some (.int li), some (.int a), some (.int b), some (.int (nI (cgS D li.toInt a.toInt b.toInt n))), some (.int i)] [] M Q := by
  intro m
  induction m using Nat.strongRecOn with
  | _ m ih =>
    intro n i hi hnD hm hq
    have c10 : (M.1 4 (Int32.toNatClampNeg 1)).toInt = (D.2.2.1 : Int) := hY.2.1
    have d24 := hD.2.1
    refine pv_iload (pc := 6) (i := 5) rfl (fm_dec dtX11_changesOf 4 rfl) ?_
    refine pv_aloadn (pc := 8) (n := 0) 0 rfl rfl (fm_dec dtX11_changesOf 5 rfl) ?_
    refine pv_getR (k := 0) (j := 12) (ci := 11) (pc := 9) 4 rfl (by decide) pfl_X11_23 (by decide) rfl (by decide) (fm_dec dtX11_changesOf 6 rfl) ?_
    refine pv_iconst (pc := 12) (v := 1) (by decide) (fm_dec dtX11_changesOf 7 rfl) ?_
    refine pv_iald (k := 4) (n := 6) (pc := 13) (by decide) rfl rfl (fm_inl (by decide)) (fm_dec dtX11_changesOf 8 rfl) ?_
    refine pv_icmp_ge (pc := 14) 72 (by decide) (fm_dec dtX11_changesOf 9 rfl) (fun hc14 => ?_) (fun hc14 => ?_)
    · refine pv_iload (pc := 72) (i := 4) rfl (fm_dec dtX11_changesOf 42 rfl) ?_
      exact pv_ireturn (pc := 74) rfl (fm_dec dtX11_changesOf 43 rfl) (by have e9 : n = D.2.2.1 := (by rw [sc_le] at hc14; omega); subst e9; exact hq)
    · have hn : n < D.2.2.1 := (by rw [sc_le] at hc14; omega)
      have h24 : n < 24 := (by omega)
      have f0 : (M.1 (67 + n) (Int32.toNatClampNeg 0)).toInt = D.2.2.2.1 n 0 := hY.2.2.2.2 n hn 0 (by decide)
      have f2 : (M.1 (67 + n) (Int32.toNatClampNeg 2)).toInt = D.2.2.2.1 n 2 := hY.2.2.2.2 n hn 2 (by decide)
      refine pv_iload (pc := 17) (i := 4) rfl (fm_dec dtX11_changesOf 10 rfl) ?_
      refine pv_aloadn (pc := 19) (n := 0) 0 rfl rfl (fm_dec dtX11_changesOf 11 rfl) ?_
      refine pv_getR (k := 0) (j := 16) (ci := 11) (pc := 20) 19 rfl (by decide) pfl_X11_37 (by decide) rfl (by decide) (fm_dec dtX11_changesOf 12 rfl) ?_
      refine pv_iload (pc := 23) (i := 5) rfl (fm_dec dtX11_changesOf 13 rfl) ?_
      refine pv_aald (k := 19) (n := 24) (r := (67 + n)) (pc := 25) (by decide) (Or.inr (Or.inr rfl)) rfl (rw_fact.inb hi h24) (rw_fact.at hi h24) (rw_fact.2.2.2 _ h24).2.1 (fm_dec dtX11_changesOf 14 rfl) ?_
      refine pv_iconst (pc := 26) (v := 0) (by decide) (fm_dec dtX11_changesOf 15 rfl) ?_
      refine pv_iald (k := (67 + n)) (n := 3) (pc := 27) (rw_fact.2.2.2 _ h24).2.2.1 (rw_fact.2.2.2 _ h24).2.2.2.1 (rw_fact.2.2.2 _ h24).2.2.2.2 (fm_inl (by decide)) (fm_dec dtX11_changesOf 16 rfl) ?_
      refine pv_iloadn (pc := 28) (n := 1) 1 rfl rfl (fm_dec dtX11_changesOf 17 rfl) ?_
      refine pv_icmp_ne (pc := 29) 62 (by decide) (fm_dec dtX11_changesOf 18 rfl) (fun hc29 => ?_) (fun hc29 => ?_)
      · refine pv_iconst (pc := 62) (v := 0) (by decide) (fm_dec dtX11_changesOf 37 rfl) ?_
        refine pv_iadd (pc := 63) (fm_dec dtX11_changesOf 38 rfl) ?_
        refine pv_istore (pc := 64) (i := 4) (by decide) rfl (fm_dec dtX11_changesOf 39 rfl) ?_
        dsimp only [List.set_cons_zero, List.set_cons_succ]
        refine pv_iincc (pc := 66) 5 1 (by decide) rfl (by decide) rfl (fm_dec dtX11_changesOf 40 rfl) ?_
        dsimp only [List.set_cons_zero, List.set_cons_succ]
        refine pv_goto (pc := 69) 6 (by decide) (fm_dec dtX11_changesOf 41 rfl) ?_
        have e9 : cgS D li.toInt a.toInt b.toInt (n + 1) = cgS D li.toInt a.toInt b.toInt n := if_neg (by intro h9; apply hc29; apply i32_ext; omega)
        rw [Int32.add_zero, ← e9]
        exact ih (D.2.2.1 - (n + 1)) (by omega) (n + 1) (i + 1) (i32_p1 hi (by omega)) (by omega) rfl hq
      · refine pv_aloadn (pc := 32) (n := 0) 0 rfl rfl (fm_dec dtX11_changesOf 19 rfl) ?_
        refine pv_getR (k := 0) (j := 16) (ci := 11) (pc := 33) 19 rfl (by decide) pfl_X11_37 (by decide) rfl (by decide) (fm_dec dtX11_changesOf 20 rfl) ?_
        refine pv_iload (pc := 36) (i := 5) rfl (fm_dec dtX11_changesOf 21 rfl) ?_
        refine pv_aald (k := 19) (n := 24) (r := (67 + n)) (pc := 38) (by decide) (Or.inr (Or.inr rfl)) rfl (rw_fact.inb hi h24) (rw_fact.at hi h24) (rw_fact.2.2.2 _ h24).2.1 (fm_dec dtX11_changesOf 22 rfl) ?_
        refine pv_iconst (pc := 39) (v := 2) (by decide) (fm_dec dtX11_changesOf 23 rfl) ?_
        refine pv_iald (k := (67 + n)) (n := 3) (pc := 40) (rw_fact.2.2.2 _ h24).2.2.1 (rw_fact.2.2.2 _ h24).2.2.2.1 (rw_fact.2.2.2 _ h24).2.2.2.2 (fm_inl (by decide)) (fm_dec dtX11_changesOf 24 rfl) ?_
        refine pv_iloadn (pc := 41) (n := 2) 2 rfl rfl (fm_dec dtX11_changesOf 25 rfl) ?_
        refine pv_icmp_le (pc := 42) 62 (by decide) (fm_dec dtX11_changesOf 26 rfl) (fun hc42 => ?_) (fun hc42 => ?_)
        · refine pv_iconst (pc := 62) (v := 0) (by decide) (fm_dec dtX11_changesOf 37 rfl) ?_
          refine pv_iadd (pc := 63) (fm_dec dtX11_changesOf 38 rfl) ?_
          refine pv_istore (pc := 64) (i := 4) (by decide) rfl (fm_dec dtX11_changesOf 39 rfl) ?_
          dsimp only [List.set_cons_zero, List.set_cons_succ]
          refine pv_iincc (pc := 66) 5 1 (by decide) rfl (by decide) rfl (fm_dec dtX11_changesOf 40 rfl) ?_
          dsimp only [List.set_cons_zero, List.set_cons_succ]
          refine pv_goto (pc := 69) 6 (by decide) (fm_dec dtX11_changesOf 41 rfl) ?_
          have e9 : cgS D li.toInt a.toInt b.toInt (n + 1) = cgS D li.toInt a.toInt b.toInt n := if_neg (by intro h9; rw [sc_le] at hc42; omega)
          rw [Int32.add_zero, ← e9]
          exact ih (D.2.2.1 - (n + 1)) (by omega) (n + 1) (i + 1) (i32_p1 hi (by omega)) (by omega) rfl hq
        · refine pv_aloadn (pc := 45) (n := 0) 0 rfl rfl (fm_dec dtX11_changesOf 27 rfl) ?_
          refine pv_getR (k := 0) (j := 16) (ci := 11) (pc := 46) 19 rfl (by decide) pfl_X11_37 (by decide) rfl (by decide) (fm_dec dtX11_changesOf 28 rfl) ?_
          refine pv_iload (pc := 49) (i := 5) rfl (fm_dec dtX11_changesOf 29 rfl) ?_
          refine pv_aald (k := 19) (n := 24) (r := (67 + n)) (pc := 51) (by decide) (Or.inr (Or.inr rfl)) rfl (rw_fact.inb hi h24) (rw_fact.at hi h24) (rw_fact.2.2.2 _ h24).2.1 (fm_dec dtX11_changesOf 30 rfl) ?_
          refine pv_iconst (pc := 52) (v := 2) (by decide) (fm_dec dtX11_changesOf 31 rfl) ?_
          refine pv_iald (k := (67 + n)) (n := 3) (pc := 53) (rw_fact.2.2.2 _ h24).2.2.1 (rw_fact.2.2.2 _ h24).2.2.2.1 (rw_fact.2.2.2 _ h24).2.2.2.2 (fm_inl (by decide)) (fm_dec dtX11_changesOf 32 rfl) ?_
          refine pv_iloadn (pc := 54) (n := 3) 3 rfl rfl (fm_dec dtX11_changesOf 33 rfl) ?_
          refine pv_icmp_gt (pc := 55) 62 (by decide) (fm_dec dtX11_changesOf 34 rfl) (fun hc55 => ?_) (fun hc55 => ?_)
          · refine pv_iconst (pc := 62) (v := 0) (by decide) (fm_dec dtX11_changesOf 37 rfl) ?_
            refine pv_iadd (pc := 63) (fm_dec dtX11_changesOf 38 rfl) ?_
            refine pv_istore (pc := 64) (i := 4) (by decide) rfl (fm_dec dtX11_changesOf 39 rfl) ?_
            dsimp only [List.set_cons_zero, List.set_cons_succ]
            refine pv_iincc (pc := 66) 5 1 (by decide) rfl (by decide) rfl (fm_dec dtX11_changesOf 40 rfl) ?_
            dsimp only [List.set_cons_zero, List.set_cons_succ]
            refine pv_goto (pc := 69) 6 (by decide) (fm_dec dtX11_changesOf 41 rfl) ?_
            have e9 : cgS D li.toInt a.toInt b.toInt (n + 1) = cgS D li.toInt a.toInt b.toInt n := if_neg (by intro h9; rw [sc_lt] at hc55; omega)
            rw [Int32.add_zero, ← e9]
            exact ih (D.2.2.1 - (n + 1)) (by omega) (n + 1) (i + 1) (i32_p1 hi (by omega)) (by omega) rfl hq
          · refine pv_iconst (pc := 58) (v := 1) (by decide) (fm_dec dtX11_changesOf 35 rfl) ?_
            refine pv_goto (pc := 59) 63 (by decide) (fm_dec dtX11_changesOf 36 rfl) ?_
            refine pv_iadd (pc := 63) (fm_dec dtX11_changesOf 38 rfl) ?_
            refine pv_istore (pc := 64) (i := 4) (by decide) rfl (fm_dec dtX11_changesOf 39 rfl) ?_
            dsimp only [List.set_cons_zero, List.set_cons_succ]
            refine pv_iincc (pc := 66) 5 1 (by decide) rfl (by decide) rfl (fm_dec dtX11_changesOf 40 rfl) ?_
            dsimp only [List.set_cons_zero, List.set_cons_succ]
            refine pv_goto (pc := 69) 6 (by decide) (fm_dec dtX11_changesOf 41 rfl) ?_
            have e9 : cgS D li.toInt a.toInt b.toInt (n + 1) = cgS D li.toInt a.toInt b.toInt n + 1 := if_pos ⟨by rw [← f0, hc29], by rw [sc_le] at hc42; omega, by rw [sc_lt] at hc55; omega⟩
            rw [nI_succ1, ← e9]
            exact ih (D.2.2.1 - (n + 1)) (by omega) (n + 1) (i + 1) (i32_p1 hi (by omega)) (by omega) rfl hq
set_option maxRecDepth 20000 in
theorem c_mcg {M : fmM} {Q : fmR → fmM → Prop} {li a b : Int32} {D : dD} (hD : dOk D) (hY : mdw M D) (hq : Q (.inl (some (.int (nI (cgA D li.toInt a.toInt b.toInt))))) M) : pvGood Tm 0 qX11_changesOf [.ref 0, .int li, .int a, .int b] M Q := by
  refine pvGood_of (Nat.le_of_ble_eq_true rfl) ?_
  show pvEv Tm 0 qX11_changesOf 0 [some (.ref 0), some (.int li), some (.int a), some (.int b), none, none] [] M Q
  refine pv_iconst (pc := 0) (v := 0) (by decide) (fm_dec dtX11_changesOf 0 rfl) ?_
  refine pv_istore (pc := 1) (i := 4) (by decide) rfl (fm_dec dtX11_changesOf 1 rfl) ?_
  dsimp only [List.set_cons_zero, List.set_cons_succ]
  refine pv_iconst (pc := 3) (v := 0) (by decide) (fm_dec dtX11_changesOf 2 rfl) ?_
  refine pv_istore (pc := 4) (i := 5) (by decide) rfl (fm_dec dtX11_changesOf 3 rfl) ?_
  dsimp only [List.set_cons_zero, List.set_cons_succ]
  exact mcg_loop hD hY D.2.2.1 0 0 (by decide) (by omega) (by omega) hq
set_option maxRecDepth 20000 in
theorem c_myr {M : fmM} {Q : fmR → fmM → Prop} {D : dD} {i wN : Nat} {w : Int32} (hD : dOk D) (hY : mdw M D) (hi : i < D.1) (hw : w.toInt = (wN : Int)) (hw2 : wN ≤ 300) (hq : Q (.inl (some (.int (nI ((D.2.1 i 0).toNat + wN / 52))))) M) : pvGood Tm 0 qX11_yearsOf [.ref 0, .int (nI i), .int w] M Q := by
  refine pvGood_of (Nat.le_of_ble_eq_true rfl) ?_
  show pvEv Tm 0 qX11_yearsOf 0 [some (.ref 0), some (.int (nI i)), some (.int w)] [] M Q
  have d8 := hD.1
  have hi9 : (nI i).toInt = (i : Int) := nI_toInt (by omega)
  have hi8 : i < 8 := (by omega)
  have b0 := (hD.2.2.1 i hi).1
  have g0 : (M.1 (35 + i) (Int32.toNatClampNeg 0)).toInt = D.2.1 i 0 := hY.2.2.2.1 i hi 0 (by decide)
  have z52 : (52 : Int32).toInt = ((52 : Nat) : Int) := (by decide)
  refine pv_aloadn (pc := 0) (n := 0) 0 rfl rfl (fm_dec dtX11_yearsOf 0 rfl) ?_
  refine pv_getR (k := 0) (j := 14) (ci := 11) (pc := 1) 17 rfl (by decide) pfl_X11_31 (by decide) rfl (by decide) (fm_dec dtX11_yearsOf 1 rfl) ?_
  refine pv_iloadn (pc := 4) (n := 1) 1 rfl rfl (fm_dec dtX11_yearsOf 2 rfl) ?_
  refine pv_aald (k := 17) (n := 8) (r := (35 + i)) (pc := 5) (by decide) (Or.inr (Or.inr rfl)) rfl (rw_life.inb hi9 hi8) (rw_life.at hi9 hi8) (rw_life.2.2.2 _ hi8).2.1 (fm_dec dtX11_yearsOf 3 rfl) ?_
  refine pv_iconst (pc := 6) (v := 0) (by decide) (fm_dec dtX11_yearsOf 4 rfl) ?_
  refine pv_iald (k := (35 + i)) (n := 6) (pc := 7) (rw_life.2.2.2 _ hi8).2.2.1 (rw_life.2.2.2 _ hi8).2.2.2.1 (rw_life.2.2.2 _ hi8).2.2.2.2 (fm_inl (by decide)) (fm_dec dtX11_yearsOf 5 rfl) ?_
  refine pv_iloadn (pc := 8) (n := 2) 2 rfl rfl (fm_dec dtX11_yearsOf 6 rfl) ?_
  refine pv_bipush (pc := 9) (v := 52) (by decide) (fm_dec dtX11_yearsOf 7 rfl) ?_
  refine pv_idiv (pc := 11) (by decide) (fm_dec dtX11_yearsOf 8 rfl) ?_
  refine pv_iadd (pc := 12) (fm_dec dtX11_yearsOf 9 rfl) ?_
  exact pv_ireturn (pc := 13) rfl (fm_dec dtX11_yearsOf 10 rfl) (by have e8 := dv_n hw z52 (by decide) (by omega); have h8 : wN / 52 ≤ wN := Nat.div_le_self _ _; have e7 : (M.1 (35 + i) (Int32.toNatClampNeg 0) + w / 52).toInt = (((D.2.1 i 0).toNat + wN / 52 : Nat) : Int) := (by rw [sc_add (by omega) (by omega)]; omega); rw [nI_is e7 (by omega)]; exact hq)
set_option maxRecDepth 20000 in
theorem c_msd {M : fmM} {Q : fmR → fmM → Prop} {D : dD} {S : aS} {i : Nat} (hD : dOk D) (hY : mdw M D) (hs : mst M D S) (ho : stO D S) (hi : i < D.1) (hq : Q (.inl (some (.int (nI (sdA D S.1.2.2.1 i))))) M) : pvGood Tm 1 qX11_isByDead [.ref 0, .ref 7, .int (nI i)] M Q := by
  refine pvGood_of (Nat.le_of_ble_eq_true rfl) ?_
  show pvEv Tm 1 qX11_isByDead 0 [some (.ref 0), some (.ref 7), some (.int (nI i))] [] M Q
  have d8 := hD.1
  have hi9 : (nI i).toInt = (i : Int) := nI_toInt (by omega)
  have hi8 : i < 8 := (by omega)
  have g5 : (M.1 (35 + i) (Int32.toNatClampNeg 5)).toInt = chB D i := hY.2.2.2.1 i hi 5 (by decide)
  have zm : (-1 : Int32).toInt = -1 := (by decide)
  have ec : D.2.1 i 5 = chB D i := rfl
  have e0 : M.1 7 (Int32.toNatClampNeg 0) = nI S.1.2.2.1 := nI_is hs.1 (by have := ho.2.2.1; omega)
  refine pv_aloadn (pc := 0) (n := 0) 0 rfl rfl (fm_dec dtX11_isByDead 0 rfl) ?_
  refine pv_getR (k := 0) (j := 14) (ci := 11) (pc := 1) 17 rfl (by decide) pfl_X11_31 (by decide) rfl (by decide) (fm_dec dtX11_isByDead 1 rfl) ?_
  refine pv_iloadn (pc := 4) (n := 2) 2 rfl rfl (fm_dec dtX11_isByDead 2 rfl) ?_
  refine pv_aald (k := 17) (n := 8) (r := (35 + i)) (pc := 5) (by decide) (Or.inr (Or.inr rfl)) rfl (rw_life.inb hi9 hi8) (rw_life.at hi9 hi8) (rw_life.2.2.2 _ hi8).2.1 (fm_dec dtX11_isByDead 3 rfl) ?_
  refine pv_iconst (pc := 6) (v := 5) (by decide) (fm_dec dtX11_isByDead 4 rfl) ?_
  refine pv_iald (k := (35 + i)) (n := 6) (pc := 7) (rw_life.2.2.2 _ hi8).2.2.1 (rw_life.2.2.2 _ hi8).2.2.2.1 (rw_life.2.2.2 _ hi8).2.2.2.2 (fm_inl (by decide)) (fm_dec dtX11_isByDead 5 rfl) ?_
  refine pv_iconst (pc := 8) (v := (-1)) (by decide) (fm_dec dtX11_isByDead 6 rfl) ?_
  refine pv_icmp_eq (pc := 9) 33 (by decide) (fm_dec dtX11_isByDead 7 rfl) (fun hc9 => ?_) (fun hc9 => ?_)
  · refine pv_iconst (pc := 33) (v := 0) (by decide) (fm_dec dtX11_isByDead 21 rfl) ?_
    exact pv_ireturn (pc := 34) rfl (fm_dec dtX11_isByDead 22 rfl) (by have h9 := hq; unfold sdA at h9; rw [if_pos (by have h8 := congrArg Int32.toInt hc9; omega)] at h9; exact h9)
  · have hn9 : ¬ chB D i < 0 := (by intro h9; apply hc9; apply i32_ext; have h8 := (hD.2.2.1 i hi).2.2.2.2.2; omega)
    obtain ⟨k, hk, hk8, hkb, hkx⟩ := by_d hD hi g5 hn9
    refine pv_aloadn (pc := 12) (n := 1) 1 rfl rfl (fm_dec dtX11_isByDead 8 rfl) ?_
    refine pv_iconst (pc := 13) (v := 0) (by decide) (fm_dec dtX11_isByDead 9 rfl) ?_
    refine pv_iald (k := 7) (n := 14) (pc := 14) (by decide) rfl rfl (fm_inl (by decide)) (fm_dec dtX11_isByDead 10 rfl) ?_
    refine pv_aloadn (pc := 15) (n := 0) 0 rfl rfl (fm_dec dtX11_isByDead 11 rfl) ?_
    refine pv_getR (k := 0) (j := 14) (ci := 11) (pc := 16) 17 rfl (by decide) pfl_X11_31 (by decide) rfl (by decide) (fm_dec dtX11_isByDead 12 rfl) ?_
    refine pv_iloadn (pc := 19) (n := 2) 2 rfl rfl (fm_dec dtX11_isByDead 13 rfl) ?_
    refine pv_aald (k := 17) (n := 8) (r := (35 + i)) (pc := 20) (by decide) (Or.inr (Or.inr rfl)) rfl (rw_life.inb hi9 hi8) (rw_life.at hi9 hi8) (rw_life.2.2.2 _ hi8).2.1 (fm_dec dtX11_isByDead 14 rfl) ?_
    refine pv_iconst (pc := 21) (v := 5) (by decide) (fm_dec dtX11_isByDead 15 rfl) ?_
    refine pv_iald (k := (35 + i)) (n := 6) (pc := 22) (rw_life.2.2.2 _ hi8).2.2.1 (rw_life.2.2.2 _ hi8).2.2.2.1 (rw_life.2.2.2 _ hi8).2.2.2.2 (fm_inl (by decide)) (fm_dec dtX11_isByDead 16 rfl) ?_
    refine pv_iS2 (d' := 0) (pc := 23) pcs_X11_256 (Nat.le_of_ble_eq_true rfl) (by decide) (fm_dec dtX11_isByDead 17 rfl) ?_
    refine c_has (fun h23 => ?_) (fun h23 => ?_)
    · refine pv_then1 ?_
      refine pv_if_eq (pc := 26) 33 (by decide) (fm_dec dtX11_isByDead 18 rfl) (fun hc26 => by exfalso; revert hc26; decide) (fun _ => ?_)
      refine pv_iconst (pc := 29) (v := 1) (by decide) (fm_dec dtX11_isByDead 19 rfl) ?_
      refine pv_goto (pc := 30) 34 (by decide) (fm_dec dtX11_isByDead 20 rfl) ?_
      exact pv_ireturn (pc := 34) rfl (fm_dec dtX11_isByDead 22 rfl) (by have h9 := hq; unfold sdA at h9; rw [if_neg (by omega), ec, hkb, Int.toNat_natCast, if_pos ((has8 _ ho.2.2.1 k hk8).mp (by rw [← e0, ← hkx]; exact h23))] at h9; exact h9)
    · refine pv_then1 ?_
      refine pv_if_eq (pc := 26) 33 (by decide) (fm_dec dtX11_isByDead 18 rfl) (fun _ => ?_) (fun hc26 => by exfalso; revert hc26; decide)
      refine pv_iconst (pc := 33) (v := 0) (by decide) (fm_dec dtX11_isByDead 21 rfl) ?_
      exact pv_ireturn (pc := 34) rfl (fm_dec dtX11_isByDead 22 rfl) (by have h9 := hq; unfold sdA at h9; rw [if_neg (by omega), ec, hkb, Int.toNat_natCast, if_neg (fun h8 => h23 (by rw [e0, hkx]; exact (has8 _ ho.2.2.1 k hk8).mpr h8))] at h9; exact h9)
set_option maxRecDepth 20000 in
theorem c_mwrgG {M : fmM} {Q : fmR → fmM → Prop} {D : dD} {cs : tC} {S : aS} {i a wN : Nat} {wr w : Int32} (hD : dOk D) (hY : mdw M D) (hL : lwM M cs) (hd : cs = [] ∨ dpB 23 0 cs = some 1) (hs : mst M D S) (ho : stO D S) (hi : i < D.1) (hw : w.toInt = (wN : Int)) (hw2 : wN ≤ 300) (hr : wr.toInt = (wN : Int) - a) (ha : a ≤ 400) (hq : ∀ (M' : fmM) (r : Int32), (∀ k j, k ≠ 5 → k ≠ 6 → M'.1 k j = M.1 k j) → M'.2 = M.2 → r.toInt = wrS D cs S.1.2.2.1 wN i a → Q (.inl (some (.int r))) M') : pvGood Tm 5 qX11_wrongIn [.ref 0, .ref 7, .int (nI i), .int wr, .int w] M Q := by
  refine pvGood_of (Nat.le_of_ble_eq_true rfl) ?_
  show pvEv Tm 5 qX11_wrongIn 0 [some (.ref 0), some (.ref 7), some (.int (nI i)), some (.int wr), some (.int w)] [] M Q
  have d8 := hD.1
  have hi9 : (nI i).toInt = (i : Int) := nI_toInt (by omega)
  have hi8 : i < 8 := (by omega)
  have b2 := (hD.2.2.1 i hi).2.2.1
  have g2 : M.1 (35 + i) (Int32.toNatClampNeg 2) = nI (D.2.1 i 2).toNat := nI_is (by have h9 : (M.1 (35 + i) (Int32.toNatClampNeg 2)).toInt = D.2.1 i 2 := hY.2.2.2.1 i hi 2 (by decide); omega) (by omega)
  have ea : w - wr = nI a := nI_is (by rw [sc_sub (by omega) (by omega)]; omega) (by omega)
  refine pv_aloadn (pc := 0) (n := 0) 0 rfl rfl (fm_dec dtX11_wrongIn 0 rfl) ?_
  refine pv_iload (pc := 1) (i := 4) rfl (fm_dec dtX11_wrongIn 1 rfl) ?_
  refine pv_iloadn (pc := 3) (n := 3) 3 rfl rfl (fm_dec dtX11_wrongIn 2 rfl) ?_
  refine pv_isub (pc := 4) (fm_dec dtX11_wrongIn 3 rfl) ?_
  refine pv_aloadn (pc := 5) (n := 0) 0 rfl rfl (fm_dec dtX11_wrongIn 4 rfl) ?_
  refine pv_iloadn (pc := 6) (n := 2) 2 rfl rfl (fm_dec dtX11_wrongIn 5 rfl) ?_
  refine pv_iload (pc := 7) (i := 4) rfl (fm_dec dtX11_wrongIn 6 rfl) ?_
  refine pv_invV2 (k := 0) (d' := 0) (pc := 9) pcv_X11_263 (by decide) rfl (Nat.le_of_ble_eq_true rfl) (by decide) (fm_dec dtX11_wrongIn 7 rfl) ?_
  refine c_myr hD hY hi hw hw2 ?_
  refine pv_then1 ?_
  refine pv_aloadn (pc := 12) (n := 0) 0 rfl rfl (fm_dec dtX11_wrongIn 8 rfl) ?_
  refine pv_getR (k := 0) (j := 14) (ci := 11) (pc := 13) 17 rfl (by decide) pfl_X11_31 (by decide) rfl (by decide) (fm_dec dtX11_wrongIn 9 rfl) ?_
  refine pv_iloadn (pc := 16) (n := 2) 2 rfl rfl (fm_dec dtX11_wrongIn 10 rfl) ?_
  refine pv_aald (k := 17) (n := 8) (r := (35 + i)) (pc := 17) (by decide) (Or.inr (Or.inr rfl)) rfl (rw_life.inb hi9 hi8) (rw_life.at hi9 hi8) (rw_life.2.2.2 _ hi8).2.1 (fm_dec dtX11_wrongIn 11 rfl) ?_
  refine pv_iconst (pc := 18) (v := 2) (by decide) (fm_dec dtX11_wrongIn 12 rfl) ?_
  refine pv_iald (k := (35 + i)) (n := 6) (pc := 19) (rw_life.2.2.2 _ hi8).2.2.1 (rw_life.2.2.2 _ hi8).2.2.2.1 (rw_life.2.2.2 _ hi8).2.2.2.2 (fm_inl (by decide)) (fm_dec dtX11_wrongIn 13 rfl) ?_
  refine pv_aloadn (pc := 20) (n := 0) 0 rfl rfl (fm_dec dtX11_wrongIn 14 rfl) ?_
  refine pv_aloadn (pc := 21) (n := 1) 1 rfl rfl (fm_dec dtX11_wrongIn 15 rfl) ?_
  refine pv_iloadn (pc := 22) (n := 2) 2 rfl rfl (fm_dec dtX11_wrongIn 16 rfl) ?_
  refine pv_invV2 (k := 0) (d' := 1) (pc := 23) pcv_X11_266 (by decide) rfl (Nat.le_of_ble_eq_true rfl) (by decide) (fm_dec dtX11_wrongIn 17 rfl) ?_
  refine c_msd hD hY hs ho hi ?_
  refine pv_then1 ?_
  refine pv_aloadn (pc := 26) (n := 0) 0 rfl rfl (fm_dec dtX11_wrongIn 18 rfl) ?_
  refine pv_iloadn (pc := 27) (n := 2) 2 rfl rfl (fm_dec dtX11_wrongIn 19 rfl) ?_
  refine pv_iloadn (pc := 28) (n := 3) 3 rfl rfl (fm_dec dtX11_wrongIn 20 rfl) ?_
  refine pv_iload (pc := 29) (i := 4) rfl (fm_dec dtX11_wrongIn 21 rfl) ?_
  refine pv_invV3 (k := 0) (d' := 0) (pc := 31) pcv_X11_270 (by decide) rfl (Nat.le_of_ble_eq_true rfl) (by decide) (fm_dec dtX11_wrongIn 22 rfl) ?_
  refine c_mcg hD hY ?_
  refine pv_then1 ?_
  refine pv_invV5 (k := 0) (d' := 4) (pc := 34) pcv_X11_273 (by decide) rfl (Nat.le_of_ble_eq_true rfl) (by decide) (fm_dec dtX11_wrongIn 23 rfl) ?_
  refine c_mlw hL hd (fun M34 g34 h34 => ?_)
  refine pv_then1 ?_
  exact pv_ireturn (pc := 37) rfl (fm_dec dtX11_wrongIn 24 rfl) (hq M34 _ g34 h34 (by unfold wrS; rw [ea, g2, hi9, hw, hr]))
theorem c_mwrg {M : fmM} {Q : fmR → fmM → Prop} {D : dD} {cs : tC} {S : aS} {i a : Nat} {wr w : Int32} (hD : dOk D) (hY : mdw M D) (hL : lwM M cs) (hd : cs = [] ∨ dpB 23 0 cs = some 1) (hs : mst M D S) (ho : stO D S) (hi : i < D.1) (hw : w.toInt = (S.1.1 : Int)) (hr : wr.toInt = (S.1.1 : Int) - a) (ha : a ≤ 240) (hq : ∀ (M' : fmM) (r : Int32), (∀ k j, k ≠ 5 → k ≠ 6 → M'.1 k j = M.1 k j) → M'.2 = M.2 → r.toInt = wrS D cs S.1.2.2.1 S.1.1 i a → Q (.inl (some (.int r))) M') : pvGood Tm 5 qX11_wrongIn [.ref 0, .ref 7, .int (nI i), .int wr, .int w] M Q := c_mwrgG hD hY hL hd hs ho hi hw (by have := ho.1; omega) hr (by omega) hq
set_option maxRecDepth 20000 in
theorem c_mcoG {M : fmM} {Q : fmR → fmM → Prop} {D : dD} {cs : tC} {S : aS} {i wN : Nat} {ag : Int} {wr w : Int32} (hD : dOk D) (hY : mdw M D) (hL : lwM M cs) (hd : cs = [] ∨ dpB 23 0 cs = some 1) (hs : mst M D S) (ho : stO D S) (hi : i < D.1) (hw : w.toInt = (wN : Int)) (hw2 : wN ≤ 300) (hr : wr.toInt = if ag = -1 then -1000 else (wN : Int) - ag) (ha : -1 ≤ ag ∧ ag ≤ 400) (hq : ∀ (M' : fmM) (r : Int32), (∀ k j, k ≠ 5 → k ≠ 6 → M'.1 k j = M.1 k j) → M'.2 = M.2 → r.toInt = coA D cs S.1.2.2.1 wN i ag → Q (.inl (some (.int r))) M') : pvGood Tm 6 qX11_costIn [.ref 0, .ref 7, .int (nI i), .int wr, .int w] M Q := by
  refine pvGood_of (Nat.le_of_ble_eq_true rfl) ?_
  show pvEv Tm 6 qX11_costIn 0 [some (.ref 0), some (.ref 7), some (.int (nI i)), some (.int wr), some (.int w)] [] M Q
  have d8 := hD.1
  have hi9 : (nI i).toInt = (i : Int) := nI_toInt (by omega)
  have hi8 : i < 8 := (by omega)
  have zm : (-1000 : Int32).toInt = -1000 := (by decide)
  have z64 : (64 : Int32).toInt = 64 := (by decide)
  have b2 := (hD.2.2.1 i hi).2.2.1
  have b3 := hD.2.2.2.2.2.1
  have b4 := hD.2.2.2.2.2.2.1
  have g2 : (M.1 (35 + i) (Int32.toNatClampNeg 2)).toInt = D.2.1 i 2 := hY.2.2.2.1 i hi 2 (by decide)
  have g3 : (M.1 4 (Int32.toNatClampNeg 3)).toInt = D.2.2.2.2 3 := hY.2.2.1 3 (by decide) (by decide)
  have g4 : (M.1 4 (Int32.toNatClampNeg 4)).toInt = D.2.2.2.2 4 := hY.2.2.1 4 (by decide) (by decide)
  refine pv_iloadn (pc := 0) (n := 3) 3 rfl rfl (fm_dec dtX11_costIn 0 rfl) ?_
  refine pv_sipush (pc := 1) (v := (-1000)) (by decide) (fm_dec dtX11_costIn 1 rfl) ?_
  refine pv_icmp_ne (pc := 4) 28 (by decide) (fm_dec dtX11_costIn 2 rfl) (fun hc4 => ?_) (fun hc4 => ?_)
  · have hne : ¬ ag = -1 := (fun h9 => hc4 (i32_ext (by rw [hr, if_pos h9, zm])))
    rw [if_neg hne] at hr
    refine pv_aloadn (pc := 28) (n := 0) 0 rfl rfl (fm_dec dtX11_costIn 17 rfl) ?_
    refine pv_getR (k := 0) (j := 12) (ci := 11) (pc := 29) 4 rfl (by decide) pfl_X11_23 (by decide) rfl (by decide) (fm_dec dtX11_costIn 18 rfl) ?_
    refine pv_iconst (pc := 32) (v := 4) (by decide) (fm_dec dtX11_costIn 19 rfl) ?_
    refine pv_iald (k := 4) (n := 6) (pc := 33) (by decide) rfl rfl (fm_inl (by decide)) (fm_dec dtX11_costIn 20 rfl) ?_
    refine pv_aloadn (pc := 34) (n := 0) 0 rfl rfl (fm_dec dtX11_costIn 21 rfl) ?_
    refine pv_getR (k := 0) (j := 14) (ci := 11) (pc := 35) 17 rfl (by decide) pfl_X11_31 (by decide) rfl (by decide) (fm_dec dtX11_costIn 22 rfl) ?_
    refine pv_iloadn (pc := 38) (n := 2) 2 rfl rfl (fm_dec dtX11_costIn 23 rfl) ?_
    refine pv_aald (k := 17) (n := 8) (r := (35 + i)) (pc := 39) (by decide) (Or.inr (Or.inr rfl)) rfl (rw_life.inb hi9 hi8) (rw_life.at hi9 hi8) (rw_life.2.2.2 _ hi8).2.1 (fm_dec dtX11_costIn 24 rfl) ?_
    refine pv_iconst (pc := 40) (v := 2) (by decide) (fm_dec dtX11_costIn 25 rfl) ?_
    refine pv_iald (k := (35 + i)) (n := 6) (pc := 41) (rw_life.2.2.2 _ hi8).2.2.1 (rw_life.2.2.2 _ hi8).2.2.2.1 (rw_life.2.2.2 _ hi8).2.2.2.2 (fm_inl (by decide)) (fm_dec dtX11_costIn 26 rfl) ?_
    refine pv_imul (pc := 42) (fm_dec dtX11_costIn 27 rfl) ?_
    refine pv_aloadn (pc := 43) (n := 0) 0 rfl rfl (fm_dec dtX11_costIn 28 rfl) ?_
    refine pv_aloadn (pc := 44) (n := 1) 1 rfl rfl (fm_dec dtX11_costIn 29 rfl) ?_
    refine pv_iloadn (pc := 45) (n := 2) 2 rfl rfl (fm_dec dtX11_costIn 30 rfl) ?_
    refine pv_iloadn (pc := 46) (n := 3) 3 rfl rfl (fm_dec dtX11_costIn 31 rfl) ?_
    refine pv_iload (pc := 47) (i := 4) rfl (fm_dec dtX11_costIn 32 rfl) ?_
    refine pv_invV4 (k := 0) (d' := 5) (pc := 49) pcv_X11_276 (by decide) rfl (Nat.le_of_ble_eq_true rfl) (by decide) (fm_dec dtX11_costIn 33 rfl) ?_
    refine c_mwrgG (a := ag.toNat) hD hY hL hd hs ho hi hw hw2 (by omega) (by omega) (fun M49 r49 g49 h49 e49 => ?_)
    refine pv_then1 ?_
    refine pv_imul (pc := 52) (fm_dec dtX11_costIn 34 rfl) ?_
    exact pv_ireturn (pc := 53) rfl (fm_dec dtX11_costIn 35 rfl) (hq M49 _ g49 h49 (by have h1 := mul_b (a := D.2.2.2.2 4) (b := D.2.1 i 2) (m := 9) (n := 99) (by omega) (by omega) (by omega) (by omega); have hw9 := wrS_b (D := D) (cs := cs) (dead := S.1.2.2.1) (w := wN) (i := i) (age := ag.toNat); have h2 := mul_b (a := D.2.2.2.2 4 * D.2.1 i 2) (b := wrS D cs S.1.2.2.1 wN i ag.toNat) (m := 891) (n := 64) (by omega) (by omega) hw9.1 hw9.2; have e1 : (M.1 4 (Int32.toNatClampNeg 4) * M.1 (35 + i) (Int32.toNatClampNeg 2)).toInt = D.2.2.2.2 4 * D.2.1 i 2 := (by rw [sc_mul (by rw [g4, g2]; omega) (by rw [g4, g2]; omega), g4, g2]); rw [sc_mul (by rw [e1, e49]; omega) (by rw [e1, e49]; omega), e1, e49]; unfold coA; rw [if_neg hne]))
  · refine pv_bipush (pc := 7) (v := 64) (by decide) (fm_dec dtX11_costIn 3 rfl) ?_
    refine pv_aloadn (pc := 9) (n := 0) 0 rfl rfl (fm_dec dtX11_costIn 4 rfl) ?_
    refine pv_getR (k := 0) (j := 12) (ci := 11) (pc := 10) 4 rfl (by decide) pfl_X11_23 (by decide) rfl (by decide) (fm_dec dtX11_costIn 5 rfl) ?_
    refine pv_iconst (pc := 13) (v := 3) (by decide) (fm_dec dtX11_costIn 6 rfl) ?_
    refine pv_iald (k := 4) (n := 6) (pc := 14) (by decide) rfl rfl (fm_inl (by decide)) (fm_dec dtX11_costIn 7 rfl) ?_
    refine pv_imul (pc := 15) (fm_dec dtX11_costIn 8 rfl) ?_
    refine pv_aloadn (pc := 16) (n := 0) 0 rfl rfl (fm_dec dtX11_costIn 9 rfl) ?_
    refine pv_getR (k := 0) (j := 14) (ci := 11) (pc := 17) 17 rfl (by decide) pfl_X11_31 (by decide) rfl (by decide) (fm_dec dtX11_costIn 10 rfl) ?_
    refine pv_iloadn (pc := 20) (n := 2) 2 rfl rfl (fm_dec dtX11_costIn 11 rfl) ?_
    refine pv_aald (k := 17) (n := 8) (r := (35 + i)) (pc := 21) (by decide) (Or.inr (Or.inr rfl)) rfl (rw_life.inb hi9 hi8) (rw_life.at hi9 hi8) (rw_life.2.2.2 _ hi8).2.1 (fm_dec dtX11_costIn 12 rfl) ?_
    refine pv_iconst (pc := 22) (v := 2) (by decide) (fm_dec dtX11_costIn 13 rfl) ?_
    refine pv_iald (k := (35 + i)) (n := 6) (pc := 23) (rw_life.2.2.2 _ hi8).2.2.1 (rw_life.2.2.2 _ hi8).2.2.2.1 (rw_life.2.2.2 _ hi8).2.2.2.2 (fm_inl (by decide)) (fm_dec dtX11_costIn 14 rfl) ?_
    refine pv_imul (pc := 24) (fm_dec dtX11_costIn 15 rfl) ?_
    refine pv_goto (pc := 25) 53 (by decide) (fm_dec dtX11_costIn 16 rfl) ?_
    exact pv_ireturn (pc := 53) rfl (fm_dec dtX11_costIn 35 rfl) (hq M _ (fun _ _ _ _ => rfl) rfl (by have hm : ag = -1 := (by have h9 := congrArg Int32.toInt hc4; rw [hr, zm] at h9; split at h9; assumption; omega); have h1 := mul_b (a := 64) (b := D.2.2.2.2 3) (m := 64) (n := 9) (by omega) (by omega) (by omega) (by omega); have h2 := mul_b (a := 64 * D.2.2.2.2 3) (b := D.2.1 i 2) (m := 576) (n := 99) (by omega) (by omega) (by omega) (by omega); have e1 : ((64 : Int32) * M.1 4 (Int32.toNatClampNeg 3)).toInt = 64 * D.2.2.2.2 3 := (by rw [sc_mul (by rw [z64, g3]; omega) (by rw [z64, g3]; omega), z64, g3]); rw [sc_mul (by rw [e1, g2]; omega) (by rw [e1, g2]; omega), e1, g2]; unfold coA; rw [if_pos hm]))
theorem c_mco {M : fmM} {Q : fmR → fmM → Prop} {D : dD} {cs : tC} {S : aS} {i : Nat} {wr w : Int32} (hD : dOk D) (hY : mdw M D) (hL : lwM M cs) (hd : cs = [] ∨ dpB 23 0 cs = some 1) (hs : mst M D S) (ho : stO D S) (hi : i < D.1) (hw : w.toInt = (S.1.1 : Int)) (hr : wr.toInt = if S.2 i = -1 then -1000 else (S.1.1 : Int) - S.2 i) (hq : ∀ (M' : fmM) (r : Int32), (∀ k j, k ≠ 5 → k ≠ 6 → M'.1 k j = M.1 k j) → M'.2 = M.2 → r.toInt = coS D cs S i → Q (.inl (some (.int r))) M') : pvGood Tm 6 qX11_costIn [.ref 0, .ref 7, .int (nI i), .int wr, .int w] M Q := c_mcoG hD hY hL hd hs ho hi hw (by have := ho.1; omega) hr (by have h1 := ho.2.2.2.2.2.2.1 i hi; have h2 := ho.1; omega) hq
end
-- P 18xb
section
/-- nothing but the state and the law's own cells has changed -/
def mFr (M M' : fmM) : Prop := (∀ k j, k ≠ 5 → k ≠ 6 → k ≠ 7 → M'.1 k j = M.1 k j) ∧ M'.2 = M.2
theorem mFr.refl (M : fmM) : mFr M M := ⟨fun _ _ _ _ _ => rfl, rfl⟩
theorem mFr.trans {M M1 M2 : fmM} (h : mFr M M1) (h' : mFr M1 M2) : mFr M M2 := ⟨fun k j a b c => (h'.1 k j a b c).trans (h.1 k j a b c), h'.2.trans h.2⟩
theorem mFr.put {M M1 : fmM} {j : Nat} {x : Int32} (h : mFr M M1) : mFr M (fmI M1 7 j x) := ⟨fun k' j' a b c => by rw [fmI_k _ _ c]; exact h.1 k' j' a b c, h.2⟩
theorem hrV_n {M : fmM} {D : dD} {S : aS} {i : Nat} (hD : dOk D) (hY : mdw M D) (hs : mst M D S) (ho : stO D S) (hi : i < D.1) : (hrV M i).toInt = ((hoS D S i : Nat) : Int) := by
  have b3 := (hD.2.2.1 i hi).2.2.2.1
  have b5 := hD.2.2.2.2.2.2.2
  have g3 : (M.1 (35 + i) 3).toInt = D.2.1 i 3 := hY.2.2.2.1 i hi 3 (by decide)
  have g5 : (M.1 4 5).toInt = D.2.2.2.2 5 := hY.2.2.1 5 (by decide) (by decide)
  unfold hrV hoS
  by_cases e : S.2 i = -1
  · rw [if_pos e, if_pos ((hs.no ho hi).mpr e)]
    omega
  · rw [if_neg e, if_neg (fun h9 => e ((hs.no ho hi).mp h9))]
    exact mx_1 (dv_n (by omega) (by omega) (by omega) (by omega))
theorem h5_ne {M : fmM} {D : dD} (hD : dOk D) (hY : mdw M D) : ¬ M.1 4 5 = 0 := by
  intro h
  have g5 : (M.1 4 5).toInt = D.2.2.2.2 5 := hY.2.2.1 5 (by decide) (by decide)
  have b5 := hD.2.2.2.2.2.2.2
  rw [h] at g5
  have z0 : (0 : Int32).toInt = 0 := by decide
  omega
theorem one_i {i : Nat} (h : i < 8) : (1 + nI i).toInt = ((1 + i : Nat) : Int) := by
  have h9 : (nI i).toInt = (i : Int) := nI_toInt (by omega)
  have z1 : (1 : Int32).toInt = 1 := by decide
  rw [sc_add (by omega) (by omega)]
  omega
set_option maxRecDepth 20000 in
theorem c_mmay {M : fmM} {Q : fmR → fmM → Prop} {D : dD} {S : aS} {i : Nat} (hD : dOk D) (hs : mst M D S) (ho : stO D S) (hi : i < D.1) (ht : ¬ S.1.2.2.1.testBit i = true → ¬ S.2 i = 0 → Q (.inl (some (.int 1))) M) (hf : (S.1.2.2.1.testBit i = true ∨ S.2 i = 0) → Q (.inl (some (.int 0))) M) : pvGood Tm 1 qX11_mayWrite [.ref 0, .ref 7, .int (nI i)] M Q := by
  refine pvGood_of (Nat.le_of_ble_eq_true rfl) ?_
  show pvEv Tm 1 qX11_mayWrite 0 [some (.ref 0), some (.ref 7), some (.int (nI i))] [] M Q
  have d8 := hD.1
  have hi9 : (nI i).toInt = (i : Int) := nI_toInt (by omega)
  have hi8 : i < 8 := (by omega)
  have h1i := one_i hi8
  have e0 : M.1 7 (Int32.toNatClampNeg 0) = nI S.1.2.2.1 := nI_is hs.1 (by have := ho.2.2.1; omega)
  have g := hs.2.2.2.2.2.2 i hi
  have g10 : (M.1 7 (Int32.toNatClampNeg 10)).toInt = (S.1.1 : Int) := hs.2.1
  have bs := ho.2.2.2.2.2.2.1 i hi
  refine pv_aloadn (pc := 0) (n := 1) 1 rfl rfl (fm_dec dtX11_mayWrite 0 rfl) ?_
  refine pv_iconst (pc := 1) (v := 0) (by decide) (fm_dec dtX11_mayWrite 1 rfl) ?_
  refine pv_iald (k := 7) (n := 14) (pc := 2) (by decide) rfl rfl (fm_inl (by decide)) (fm_dec dtX11_mayWrite 2 rfl) ?_
  refine pv_iloadn (pc := 3) (n := 2) 2 rfl rfl (fm_dec dtX11_mayWrite 3 rfl) ?_
  refine pv_iS2 (d' := 0) (pc := 4) pcs_X11_256 (Nat.le_of_ble_eq_true rfl) (by decide) (fm_dec dtX11_mayWrite 4 rfl) ?_
  refine c_has (fun h4 => ?_) (fun h4 => ?_)
  · refine pv_then1 ?_
    refine pv_if_ne (pc := 7) 26 (by decide) (fm_dec dtX11_mayWrite 5 rfl) (fun _ => ?_) (fun hc7 => by exfalso; revert hc7; decide)
    refine pv_iconst (pc := 26) (v := 0) (by decide) (fm_dec dtX11_mayWrite 17 rfl) ?_
    exact pv_zreturn (pc := 27) rfl (by first | exact Or.inr rfl | exact Or.inl rfl) (fm_dec dtX11_mayWrite 18 rfl) (hf (Or.inl ((has8 _ ho.2.2.1 i hi8).mp (by rw [← e0]; exact h4))))
  · refine pv_then1 ?_
    refine pv_if_ne (pc := 7) 26 (by decide) (fm_dec dtX11_mayWrite 5 rfl) (fun hc7 => by exfalso; revert hc7; decide) (fun _ => ?_)
    refine pv_aloadn (pc := 10) (n := 1) 1 rfl rfl (fm_dec dtX11_mayWrite 6 rfl) ?_
    refine pv_iconst (pc := 11) (v := 1) (by decide) (fm_dec dtX11_mayWrite 7 rfl) ?_
    refine pv_iloadn (pc := 12) (n := 2) 2 rfl rfl (fm_dec dtX11_mayWrite 8 rfl) ?_
    refine pv_iadd (pc := 13) (fm_dec dtX11_mayWrite 9 rfl) ?_
    refine pv_iald (k := 7) (n := 14) (pc := 14) (by decide) rfl rfl (ix_in h1i (by omega)) (fm_dec dtX11_mayWrite 10 rfl) ?_
    rw [i32_cl h1i]
    refine pv_aloadn (pc := 15) (n := 1) 1 rfl rfl (fm_dec dtX11_mayWrite 11 rfl) ?_
    refine pv_bipush (pc := 16) (v := 10) (by decide) (fm_dec dtX11_mayWrite 12 rfl) ?_
    refine pv_iald (k := 7) (n := 14) (pc := 18) (by decide) rfl rfl (fm_inl (by decide)) (fm_dec dtX11_mayWrite 13 rfl) ?_
    refine pv_icmp_eq (pc := 19) 26 (by decide) (fm_dec dtX11_mayWrite 14 rfl) (fun hc19 => ?_) (fun hc19 => ?_)
    · refine pv_iconst (pc := 26) (v := 0) (by decide) (fm_dec dtX11_mayWrite 17 rfl) ?_
      exact pv_zreturn (pc := 27) rfl (by first | exact Or.inr rfl | exact Or.inl rfl) (fm_dec dtX11_mayWrite 18 rfl) (hf (Or.inr (by have h9 := congrArg Int32.toInt hc19; rw [g, g10] at h9; split at h9; omega; omega)))
    · refine pv_iconst (pc := 22) (v := 1) (by decide) (fm_dec dtX11_mayWrite 15 rfl) ?_
      refine pv_goto (pc := 23) 27 (by decide) (fm_dec dtX11_mayWrite 16 rfl) ?_
      exact pv_zreturn (pc := 27) rfl (by first | exact Or.inr rfl | exact Or.inl rfl) (fm_dec dtX11_mayWrite 18 rfl) (ht (fun h9 => h4 (by rw [e0]; exact (has8 _ ho.2.2.1 i hi8).mpr h9)) (fun h9 => hc19 (i32_ext (by rw [g, g10, if_neg (by omega)]; omega))))
def wrM2 (M : fmM) (i : Nat) : fmM := fmI (fmI M 7 9 (M.1 7 9 - hrV M i)) 7 (1 + i) (M.1 7 10)
theorem wr_st {M : fmM} {D : dD} {S : aS} {i : Nat} (hD : dOk D) (hY : mdw M D) (hs : mst M D S) (ho : stO D S) (hi : i < D.1) (hle : hoS D S i ≤ S.1.2.1) : mst (wrM2 M i) D ((S.1.1, S.1.2.1 - hoS D S i, S.1.2.2), fun j => if j = i then 0 else S.2 j) := by
  have hh := hrV_n hD hY hs ho hi
  obtain ⟨a, b, c, d, e, f, g⟩ := hs
  have d8 := hD.1
  have h12 := ho.2.1
  have k : ∀ j, ¬ j = 9 → ¬ j = 1 + i → (wrM2 M i).1 7 j = M.1 7 j := fun j n1 n2 => by
    unfold wrM2
    rw [fmI_j _ _ n2, fmI_j _ _ n1]
  refine ⟨by rw [k 0 (by omega) (by omega)]; exact a, by rw [k 10 (by omega) (by omega)]; exact b, ?_, by rw [k 11 (by omega) (by omega)]; exact d, by rw [k 12 (by omega) (by omega)]; exact e, by rw [k 13 (by omega) (by omega)]; exact f, fun j hj => ?_⟩
  · unfold wrM2
    rw [fmI_j _ _ (by omega), fmI_s, sc_sub (by omega) (by omega)]
    show _ = ((S.1.2.1 - hoS D S i : Nat) : Int)
    omega
  · show _ = if (if j = i then (0 : Int) else S.2 j) = -1 then -1000 else (S.1.1 : Int) - (if j = i then 0 else S.2 j)
    by_cases e0 : j = i
    · subst e0
      unfold wrM2
      rw [fmI_s, if_pos rfl, if_neg (by decide)]
      omega
    · rw [k (1 + j) (by omega) (by omega), if_neg e0]
      exact g j hj
set_option maxRecDepth 20000 in
theorem c_mwri {M : fmM} {Q : fmR → fmM → Prop} {D : dD} {i : Nat} (hD : dOk D) (hY : mdw M D) (hi : i < D.1) (hq : Q (.inl none) (wrM2 M i)) : pvGood Tm 3 qX11_writes [.ref 0, .ref 7, .int (nI i)] M Q := by
  refine pvGood_of (Nat.le_of_ble_eq_true rfl) ?_
  show pvEv Tm 3 qX11_writes 0 [some (.ref 0), some (.ref 7), some (.int (nI i))] [] M Q
  have d8 := hD.1
  have hi9 : (nI i).toInt = (i : Int) := nI_toInt (by omega)
  have hi8 : i < 8 := (by omega)
  have h1i := one_i hi8
  refine pv_aloadn (pc := 0) (n := 1) 1 rfl rfl (fm_dec dtX11_writes 0 rfl) ?_
  refine pv_bipush (pc := 1) (v := 9) (by decide) (fm_dec dtX11_writes 1 rfl) ?_
  refine pv_dup2 (pc := 3) rfl rfl (fm_dec dtX11_writes 2 rfl) ?_
  refine pv_iald (k := 7) (n := 14) (pc := 4) (by decide) rfl rfl (fm_inl (by decide)) (fm_dec dtX11_writes 3 rfl) ?_
  refine pv_aloadn (pc := 5) (n := 0) 0 rfl rfl (fm_dec dtX11_writes 4 rfl) ?_
  refine pv_aloadn (pc := 6) (n := 1) 1 rfl rfl (fm_dec dtX11_writes 5 rfl) ?_
  refine pv_iloadn (pc := 7) (n := 2) 2 rfl rfl (fm_dec dtX11_writes 6 rfl) ?_
  refine pv_invV2 (k := 0) (d' := 2) (pc := 8) pcv_X11_290 (by decide) rfl (Nat.le_of_ble_eq_true rfl) (by decide) (fm_dec dtX11_writes 7 rfl) ?_
  refine c_hours7 hi9 hi8 (h5_ne hD hY) ?_
  refine pv_then1 ?_
  refine pv_isub (pc := 11) (fm_dec dtX11_writes 8 rfl) ?_
  refine pv_iast (k := 7) (n := 14) (pc := 12) (by decide) rfl rfl (fm_inl (by decide)) (fm_dec dtX11_writes 9 rfl) ?_
  refine pv_aloadn (pc := 13) (n := 1) 1 rfl rfl (fm_dec dtX11_writes 10 rfl) ?_
  refine pv_iconst (pc := 14) (v := 1) (by decide) (fm_dec dtX11_writes 11 rfl) ?_
  refine pv_iloadn (pc := 15) (n := 2) 2 rfl rfl (fm_dec dtX11_writes 12 rfl) ?_
  refine pv_iadd (pc := 16) (fm_dec dtX11_writes 13 rfl) ?_
  refine pv_aloadn (pc := 17) (n := 1) 1 rfl rfl (fm_dec dtX11_writes 14 rfl) ?_
  refine pv_bipush (pc := 18) (v := 10) (by decide) (fm_dec dtX11_writes 15 rfl) ?_
  refine pv_iald (k := 7) (n := 14) (pc := 20) (by decide) rfl rfl (fm_inl (by decide)) (fm_dec dtX11_writes 16 rfl) ?_
  refine pv_iast (k := 7) (n := 14) (pc := 21) (by decide) rfl rfl (ix_in h1i (by omega)) (fm_dec dtX11_writes 17 rfl) ?_
  rw [i32_cl h1i]
  exact pv_return (pc := 22) rfl (fm_dec dtX11_writes 18 rfl) hq
def dmM (M : fmM) (c : Int32) (i : Nat) (no : Bool) : fmM := fmI (fmI (if no then fmI (fmI (fmI M 7 13 (M.1 7 13 + c)) 7 11 (M.1 7 11 + 1)) 7 9 (pvMx true 0 (M.1 7 9 - 2)) else fmI (fmI M 7 13 (M.1 7 13 + c)) 7 12 (M.1 7 12 + 1)) 7 0 (M.1 7 0 ||| 1 <<< (nI i &&& 31))) 7 (1 + i) (-1000)
theorem dm_fr {M0 M : fmM} {c : Int32} {i : Nat} {no : Bool} (h : mFr M0 M) : mFr M0 (dmM M c i no) := by
  unfold dmM
  cases no with
  | true => exact (((h.put).put).put).put.put
  | false => exact ((h.put).put).put.put
theorem dm_st {M : fmM} {D : dD} {cs : tC} {S : aS} {i : Nat} {c : Int32} (hD : dOk D) (hs : mst M D S) (ho : stO D S) (hi : i < D.1) (ht : S.1.2.2.1.testBit i = false) (hc : c.toInt = coS D cs S i) : ∃ S', diS D cs S i = some S' ∧ mst (dmM M c i (decide (S.2 i = -1))) D S' := by
  obtain ⟨a, b, c0, d, e, f, g⟩ := hs
  have d8 := hD.1
  have hcb := coS_b (cs := cs) (S := S) hD hi
  have p8 := pop8_le _ ho.2.2.1
  have hp := ho.2.2.2.1
  have h12 := ho.2.1
  have l1 := ho.2.2.2.2.1
  have l2 := ho.2.2.2.2.2.1
  have z0 : (0 : Int32).toInt = 0 := by decide
  have z1 : (1 : Int32).toInt = 1 := by decide
  have z2 : (2 : Int32).toInt = 2 := by decide
  have zm : (-1000 : Int32).toInt = -1000 := by decide
  have e1 : M.1 7 0 = nI S.1.2.2.1 := nI_is a (by have := ho.2.2.1; omega)
  have eo : (M.1 7 0 ||| 1 <<< (nI i &&& 31)).toInt = ((S.1.2.2.1 ||| 1 <<< i : Nat) : Int) := by rw [e1]; exact or8n _ ho.2.2.1 i (by omega)
  have el : (M.1 7 13 + c).toInt = S.1.2.2.2.2.2 + coS D cs S i := by rw [sc_add (by omega) (by omega), f, hc]
  unfold diS
  rw [if_neg (by rw [ht]; decide)]
  by_cases hm : S.2 i = -1
  · rw [if_pos hm]
    refine ⟨_, rfl, ?_⟩
    have e9 : dmM M c i (decide (S.2 i = -1)) = fmI (fmI (fmI (fmI (fmI M 7 13 (M.1 7 13 + c)) 7 11 (M.1 7 11 + 1)) 7 9 (pvMx true 0 (M.1 7 9 - 2))) 7 0 (M.1 7 0 ||| 1 <<< (nI i &&& 31))) 7 (1 + i) (-1000) := by
      unfold dmM
      rw [if_pos (decide_eq_true hm)]
    rw [e9]
    refine ⟨?_, ?_, ?_, ?_, ?_, ?_, fun j hj => ?_⟩
    · rw [fmI_j _ _ (by omega), fmI_s]; exact eo
    · rw [fmI_j _ _ (by omega), fmI_j _ _ (by decide), fmI_j _ _ (by decide), fmI_j _ _ (by decide), fmI_j _ _ (by decide)]; exact b
    · rw [fmI_j _ _ (by omega), fmI_j _ _ (by decide), fmI_s, mxt, sc_sub (by omega) (by omega), z0, z2, c0]
      show _ = ((S.1.2.1 - 2 : Nat) : Int)
      omega
    · rw [fmI_j _ _ (by omega), fmI_j _ _ (by decide), fmI_j _ _ (by decide), fmI_s, sc_add (by omega) (by omega)]
      show _ = ((S.1.2.2.2.1 + 1 : Nat) : Int)
      omega
    · rw [fmI_j _ _ (by omega), fmI_j _ _ (by decide), fmI_j _ _ (by decide), fmI_j _ _ (by decide), fmI_j _ _ (by decide)]; exact e
    · rw [fmI_j _ _ (by omega), fmI_j _ _ (by decide), fmI_j _ _ (by decide), fmI_j _ _ (by decide), fmI_s]; exact el
    · show _ = if S.2 j = -1 then -1000 else (S.1.1 : Int) - S.2 j
      by_cases e0 : j = i
      · subst e0
        rw [fmI_s, if_pos hm]
        exact zm
      · rw [fmI_j _ _ (by omega), fmI_j _ _ (by omega), fmI_j _ _ (by omega), fmI_j _ _ (by omega), fmI_j _ _ (by omega)]
        exact g j hj
  · rw [if_neg hm]
    refine ⟨_, rfl, ?_⟩
    have e9 : dmM M c i (decide (S.2 i = -1)) = fmI (fmI (fmI (fmI M 7 13 (M.1 7 13 + c)) 7 12 (M.1 7 12 + 1)) 7 0 (M.1 7 0 ||| 1 <<< (nI i &&& 31))) 7 (1 + i) (-1000) := by
      unfold dmM
      rw [if_neg (by rw [decide_eq_true_eq]; exact hm)]
    rw [e9]
    refine ⟨?_, ?_, ?_, ?_, ?_, ?_, fun j hj => ?_⟩
    · rw [fmI_j _ _ (by omega), fmI_s]; exact eo
    · rw [fmI_j _ _ (by omega), fmI_j _ _ (by decide), fmI_j _ _ (by decide), fmI_j _ _ (by decide)]; exact b
    · rw [fmI_j _ _ (by omega), fmI_j _ _ (by decide), fmI_j _ _ (by decide), fmI_j _ _ (by decide)]; exact c0
    · rw [fmI_j _ _ (by omega), fmI_j _ _ (by decide), fmI_j _ _ (by decide), fmI_j _ _ (by decide)]; exact d
    · rw [fmI_j _ _ (by omega), fmI_j _ _ (by decide), fmI_s, sc_add (by omega) (by omega)]
      show _ = ((S.1.2.2.2.2.1 + 1 : Nat) : Int)
      omega
    · rw [fmI_j _ _ (by omega), fmI_j _ _ (by decide), fmI_j _ _ (by decide), fmI_s]; exact el
    · show _ = if (if j = i then (-1 : Int) else S.2 j) = -1 then -1000 else (S.1.1 : Int) - (if j = i then -1 else S.2 j)
      by_cases e0 : j = i
      · subst e0
        rw [fmI_s, if_pos rfl, if_pos rfl]
        exact zm
      · rw [fmI_j _ _ (by omega), fmI_j _ _ (by omega), fmI_j _ _ (by omega), fmI_j _ _ (by omega), if_neg e0]
        exact g j hj
set_option maxRecDepth 20000 in
theorem c_mcof {M : fmM} {Q : fmR → fmM → Prop} {D : dD} {cs : tC} {S : aS} {i : Nat} (hD : dOk D) (hY : mdw M D) (hL : lwM M cs) (hd : cs = [] ∨ dpB 23 0 cs = some 1) (hs : mst M D S) (ho : stO D S) (hi : i < D.1) (ht : S.1.2.2.1.testBit i = false) (hq : ∀ (M' : fmM) (r : Int32), (∀ k j, k ≠ 5 → k ≠ 6 → M'.1 k j = M.1 k j) → M'.2 = M.2 → r.toInt = coS D cs S i → Q (.inl (some (.int r))) M') : pvGood Tm 7 qX11_costOf [.ref 0, .ref 7, .int (nI i)] M Q := by
  refine pvGood_of (Nat.le_of_ble_eq_true rfl) ?_
  show pvEv Tm 7 qX11_costOf 0 [some (.ref 0), some (.ref 7), some (.int (nI i))] [] M Q
  have d8 := hD.1
  have hi9 : (nI i).toInt = (i : Int) := nI_toInt (by omega)
  have hi8 : i < 8 := (by omega)
  have h1i := one_i hi8
  have e0 : M.1 7 (Int32.toNatClampNeg 0) = nI S.1.2.2.1 := nI_is hs.1 (by have := ho.2.2.1; omega)
  refine pv_aloadn (pc := 0) (n := 1) 1 rfl rfl (fm_dec dtX11_costOf 0 rfl) ?_
  refine pv_iconst (pc := 1) (v := 0) (by decide) (fm_dec dtX11_costOf 1 rfl) ?_
  refine pv_iald (k := 7) (n := 14) (pc := 2) (by decide) rfl rfl (fm_inl (by decide)) (fm_dec dtX11_costOf 2 rfl) ?_
  refine pv_iloadn (pc := 3) (n := 2) 2 rfl rfl (fm_dec dtX11_costOf 3 rfl) ?_
  refine pv_iS2 (d' := 0) (pc := 4) pcs_X11_256 (Nat.le_of_ble_eq_true rfl) (by decide) (fm_dec dtX11_costOf 4 rfl) ?_
  refine c_has (fun h4 => ?_) (fun h4 => ?_)
  · refine pv_then1 ?_
    refine pv_if_eq (pc := 7) 14 (by decide) (fm_dec dtX11_costOf 5 rfl) (fun hc7 => by exfalso; revert hc7; decide) (fun _ => ?_)
    refine pv_iconst (pc := 10) (v := 0) (by decide) (fm_dec dtX11_costOf 6 rfl) ?_
    refine pv_goto (pc := 11) 29 (by decide) (fm_dec dtX11_costOf 7 rfl) ?_
    exact pv_ireturn (pc := 29) rfl (fm_dec dtX11_costOf 20 rfl) (by exfalso; have h9 := (has8 _ ho.2.2.1 i hi8).mp (by rw [← e0]; exact h4); rw [ht] at h9; cases h9)
  · refine pv_then1 ?_
    refine pv_if_eq (pc := 7) 14 (by decide) (fm_dec dtX11_costOf 5 rfl) (fun _ => ?_) (fun hc7 => by exfalso; revert hc7; decide)
    refine pv_aloadn (pc := 14) (n := 0) 0 rfl rfl (fm_dec dtX11_costOf 8 rfl) ?_
    refine pv_aloadn (pc := 15) (n := 1) 1 rfl rfl (fm_dec dtX11_costOf 9 rfl) ?_
    refine pv_iloadn (pc := 16) (n := 2) 2 rfl rfl (fm_dec dtX11_costOf 10 rfl) ?_
    refine pv_aloadn (pc := 17) (n := 1) 1 rfl rfl (fm_dec dtX11_costOf 11 rfl) ?_
    refine pv_iconst (pc := 18) (v := 1) (by decide) (fm_dec dtX11_costOf 12 rfl) ?_
    refine pv_iloadn (pc := 19) (n := 2) 2 rfl rfl (fm_dec dtX11_costOf 13 rfl) ?_
    refine pv_iadd (pc := 20) (fm_dec dtX11_costOf 14 rfl) ?_
    refine pv_iald (k := 7) (n := 14) (pc := 21) (by decide) rfl rfl (ix_in h1i (by omega)) (fm_dec dtX11_costOf 15 rfl) ?_
    rw [i32_cl h1i]
    refine pv_aloadn (pc := 22) (n := 1) 1 rfl rfl (fm_dec dtX11_costOf 16 rfl) ?_
    refine pv_bipush (pc := 23) (v := 10) (by decide) (fm_dec dtX11_costOf 17 rfl) ?_
    refine pv_iald (k := 7) (n := 14) (pc := 25) (by decide) rfl rfl (fm_inl (by decide)) (fm_dec dtX11_costOf 18 rfl) ?_
    refine pv_invV4 (k := 0) (d' := 6) (pc := 26) pcv_X11_280 (by decide) rfl (Nat.le_of_ble_eq_true rfl) (by decide) (fm_dec dtX11_costOf 19 rfl) ?_
    refine c_mco hD hY hL hd hs ho hi hs.2.1 (hs.2.2.2.2.2.2 i hi) (fun M26 r26 g26 h26 e26 => ?_)
    refine pv_then1 ?_
    exact pv_ireturn (pc := 29) rfl (fm_dec dtX11_costOf 20 rfl) (hq M26 r26 g26 h26 e26)
set_option maxRecDepth 20000 in
theorem c_mdie {M : fmM} {Q : fmR → fmM → Prop} {D : dD} {cs : tC} {S : aS} {i : Nat} (hD : dOk D) (hY : mdw M D) (hL : lwM M cs) (hd : cs = [] ∨ dpB 23 0 cs = some 1) (hs : mst M D S) (ho : stO D S) (hi : i < D.1) (ht : S.1.2.2.1.testBit i = false) (hq : ∀ (M' : fmM) (S' : aS), diS D cs S i = some S' → mst M' D S' → mFr M M' → Q (.inl none) M') : pvGood Tm 8 qX11_dies [.ref 0, .ref 7, .int (nI i)] M Q := by
  refine pvGood_of (Nat.le_of_ble_eq_true rfl) ?_
  show pvEv Tm 8 qX11_dies 0 [some (.ref 0), some (.ref 7), some (.int (nI i)), none] [] M Q
  have d8 := hD.1
  have hi9 : (nI i).toInt = (i : Int) := nI_toInt (by omega)
  have hi8 : i < 8 := (by omega)
  have h1i := one_i hi8
  refine pv_aloadn (pc := 0) (n := 0) 0 rfl rfl (fm_dec dtX11_dies 0 rfl) ?_
  refine pv_aloadn (pc := 1) (n := 1) 1 rfl rfl (fm_dec dtX11_dies 1 rfl) ?_
  refine pv_iloadn (pc := 2) (n := 2) 2 rfl rfl (fm_dec dtX11_dies 2 rfl) ?_
  refine pv_invV2 (k := 0) (d' := 7) (pc := 3) pcv_X11_293 (by decide) rfl (Nat.le_of_ble_eq_true rfl) (by decide) (fm_dec dtX11_dies 3 rfl) ?_
  refine c_mcof hD hY hL hd hs ho hi ht (fun M6 r6 g6 h6 e6 => ?_)
  refine pv_then1 ?_
  refine pv_istoren (pc := 6) (n := 3) 3 rfl (by decide) rfl (fm_dec dtX11_dies 4 rfl) ?_
  dsimp only [List.set_cons_zero, List.set_cons_succ]
  have hs6 : mst M6 D S := hs.of (fun j => g6 7 j (by decide) (by decide))
  obtain ⟨S9, e9, h9⟩ := dm_st (cs := cs) hD hs6 ho hi ht e6
  have f9 : mFr M (dmM M6 r6 i (decide (S.2 i = -1))) := dm_fr ⟨fun k j a b _ => g6 k j a b, h6⟩
  have n9 : (fmI M6 7 13 (M6.1 7 13 + r6)).1 7 (1 + i) = M6.1 7 (1 + i) := fmI_j _ _ (by omega)
  refine pv_aloadn (pc := 7) (n := 1) 1 rfl rfl (fm_dec dtX11_dies 5 rfl) ?_
  refine pv_bipush (pc := 8) (v := 13) (by decide) (fm_dec dtX11_dies 6 rfl) ?_
  refine pv_dup2 (pc := 10) rfl rfl (fm_dec dtX11_dies 7 rfl) ?_
  refine pv_iald (k := 7) (n := 14) (pc := 11) (by decide) rfl rfl (fm_inl (by decide)) (fm_dec dtX11_dies 8 rfl) ?_
  refine pv_iloadn (pc := 12) (n := 3) 3 rfl rfl (fm_dec dtX11_dies 9 rfl) ?_
  refine pv_iadd (pc := 13) (fm_dec dtX11_dies 10 rfl) ?_
  refine pv_iast (k := 7) (n := 14) (pc := 14) (by decide) rfl rfl (fm_inl (by decide)) (fm_dec dtX11_dies 11 rfl) ?_
  refine pv_aloadn (pc := 15) (n := 1) 1 rfl rfl (fm_dec dtX11_dies 12 rfl) ?_
  refine pv_iloadn (pc := 16) (n := 2) 2 rfl rfl (fm_dec dtX11_dies 13 rfl) ?_
  refine pv_iS2 (d' := 0) (pc := 17) pcs_X11_283 (Nat.le_of_ble_eq_true rfl) (by decide) (fm_dec dtX11_dies 14 rfl) ?_
  refine c_hasPiece7 hi9 hi8 (fun h17 => ?_) (fun h17 => ?_)
  · refine pv_then1 ?_
    refine pv_if_eq (pc := 20) 34 (by decide) (fm_dec dtX11_dies 15 rfl) (fun hc20 => by exfalso; revert hc20; decide) (fun _ => ?_)
    refine pv_aloadn (pc := 23) (n := 1) 1 rfl rfl (fm_dec dtX11_dies 16 rfl) ?_
    refine pv_bipush (pc := 24) (v := 12) (by decide) (fm_dec dtX11_dies 17 rfl) ?_
    refine pv_dup2 (pc := 26) rfl rfl (fm_dec dtX11_dies 18 rfl) ?_
    refine pv_iald (k := 7) (n := 14) (pc := 27) (by decide) rfl rfl (fm_inl (by decide)) (fm_dec dtX11_dies 19 rfl) ?_
    refine pv_iconst (pc := 28) (v := 1) (by decide) (fm_dec dtX11_dies 20 rfl) ?_
    refine pv_iadd (pc := 29) (fm_dec dtX11_dies 21 rfl) ?_
    refine pv_iast (k := 7) (n := 14) (pc := 30) (by decide) rfl rfl (fm_inl (by decide)) (fm_dec dtX11_dies 22 rfl) ?_
    refine pv_goto (pc := 31) 56 (by decide) (fm_dec dtX11_dies 23 rfl) ?_
    refine pv_aloadn (pc := 56) (n := 1) 1 rfl rfl (fm_dec dtX11_dies 41 rfl) ?_
    refine pv_iconst (pc := 57) (v := 0) (by decide) (fm_dec dtX11_dies 42 rfl) ?_
    refine pv_dup2 (pc := 58) rfl rfl (fm_dec dtX11_dies 43 rfl) ?_
    refine pv_iald (k := 7) (n := 14) (pc := 59) (by decide) rfl rfl (fm_inl (by decide)) (fm_dec dtX11_dies 44 rfl) ?_
    refine pv_iconst (pc := 60) (v := 1) (by decide) (fm_dec dtX11_dies 45 rfl) ?_
    refine pv_iloadn (pc := 61) (n := 2) 2 rfl rfl (fm_dec dtX11_dies 46 rfl) ?_
    refine pv_ishl (pc := 62) (fm_dec dtX11_dies 47 rfl) ?_
    refine pv_ior (pc := 63) (fm_dec dtX11_dies 48 rfl) ?_
    refine pv_iast (k := 7) (n := 14) (pc := 64) (by decide) rfl rfl (fm_inl (by decide)) (fm_dec dtX11_dies 49 rfl) ?_
    refine pv_aloadn (pc := 65) (n := 1) 1 rfl rfl (fm_dec dtX11_dies 50 rfl) ?_
    refine pv_iconst (pc := 66) (v := 1) (by decide) (fm_dec dtX11_dies 51 rfl) ?_
    refine pv_iloadn (pc := 67) (n := 2) 2 rfl rfl (fm_dec dtX11_dies 52 rfl) ?_
    refine pv_iadd (pc := 68) (fm_dec dtX11_dies 53 rfl) ?_
    refine pv_sipush (pc := 69) (v := (-1000)) (by decide) (fm_dec dtX11_dies 54 rfl) ?_
    refine pv_iast (k := 7) (n := 14) (pc := 72) (by decide) rfl rfl (ix_in h1i (by omega)) (fm_dec dtX11_dies 55 rfl) ?_
    rw [i32_cl h1i]
    exact pv_return (pc := 73) rfl (fm_dec dtX11_dies 56 rfl) (by first | (have hm : ¬ S.2 i = -1 := (fun h8 => h17 (n9.trans ((hs6.no ho hi).mpr h8))); have e8 : dmM M6 r6 i (decide (S.2 i = -1)) = _ := (by unfold dmM; rw [if_neg (by rw [decide_eq_true_eq]; exact hm)]); rw [e8] at h9 f9; exact hq _ S9 e9 h9 f9) | (have hm : S.2 i = -1 := (hs6.no ho hi).mp (n9.symm.trans h17); have e8 : dmM M6 r6 i (decide (S.2 i = -1)) = _ := (by unfold dmM; rw [if_pos (decide_eq_true hm)]); rw [e8] at h9 f9; exact hq _ S9 e9 h9 f9))
  · refine pv_then1 ?_
    refine pv_if_eq (pc := 20) 34 (by decide) (fm_dec dtX11_dies 15 rfl) (fun _ => ?_) (fun hc20 => by exfalso; revert hc20; decide)
    refine pv_aloadn (pc := 34) (n := 1) 1 rfl rfl (fm_dec dtX11_dies 24 rfl) ?_
    refine pv_bipush (pc := 35) (v := 11) (by decide) (fm_dec dtX11_dies 25 rfl) ?_
    refine pv_dup2 (pc := 37) rfl rfl (fm_dec dtX11_dies 26 rfl) ?_
    refine pv_iald (k := 7) (n := 14) (pc := 38) (by decide) rfl rfl (fm_inl (by decide)) (fm_dec dtX11_dies 27 rfl) ?_
    refine pv_iconst (pc := 39) (v := 1) (by decide) (fm_dec dtX11_dies 28 rfl) ?_
    refine pv_iadd (pc := 40) (fm_dec dtX11_dies 29 rfl) ?_
    refine pv_iast (k := 7) (n := 14) (pc := 41) (by decide) rfl rfl (fm_inl (by decide)) (fm_dec dtX11_dies 30 rfl) ?_
    refine pv_aloadn (pc := 42) (n := 1) 1 rfl rfl (fm_dec dtX11_dies 31 rfl) ?_
    refine pv_bipush (pc := 43) (v := 9) (by decide) (fm_dec dtX11_dies 32 rfl) ?_
    refine pv_iconst (pc := 45) (v := 0) (by decide) (fm_dec dtX11_dies 33 rfl) ?_
    refine pv_aloadn (pc := 46) (n := 1) 1 rfl rfl (fm_dec dtX11_dies 34 rfl) ?_
    refine pv_bipush (pc := 47) (v := 9) (by decide) (fm_dec dtX11_dies 35 rfl) ?_
    refine pv_iald (k := 7) (n := 14) (pc := 49) (by decide) rfl rfl (fm_inl (by decide)) (fm_dec dtX11_dies 36 rfl) ?_
    refine pv_iconst (pc := 50) (v := 2) (by decide) (fm_dec dtX11_dies 37 rfl) ?_
    refine pv_isub (pc := 51) (fm_dec dtX11_dies 38 rfl) ?_
    refine pv_mm (pc := 52) pmm_X11_240 (by decide) (Nat.le_of_ble_eq_true rfl) (fm_dec dtX11_dies 39 rfl) ?_
    refine pv_iast (k := 7) (n := 14) (pc := 55) (by decide) rfl rfl (fm_inl (by decide)) (fm_dec dtX11_dies 40 rfl) ?_
    refine pv_aloadn (pc := 56) (n := 1) 1 rfl rfl (fm_dec dtX11_dies 41 rfl) ?_
    refine pv_iconst (pc := 57) (v := 0) (by decide) (fm_dec dtX11_dies 42 rfl) ?_
    refine pv_dup2 (pc := 58) rfl rfl (fm_dec dtX11_dies 43 rfl) ?_
    refine pv_iald (k := 7) (n := 14) (pc := 59) (by decide) rfl rfl (fm_inl (by decide)) (fm_dec dtX11_dies 44 rfl) ?_
    refine pv_iconst (pc := 60) (v := 1) (by decide) (fm_dec dtX11_dies 45 rfl) ?_
    refine pv_iloadn (pc := 61) (n := 2) 2 rfl rfl (fm_dec dtX11_dies 46 rfl) ?_
    refine pv_ishl (pc := 62) (fm_dec dtX11_dies 47 rfl) ?_
    refine pv_ior (pc := 63) (fm_dec dtX11_dies 48 rfl) ?_
    refine pv_iast (k := 7) (n := 14) (pc := 64) (by decide) rfl rfl (fm_inl (by decide)) (fm_dec dtX11_dies 49 rfl) ?_
    refine pv_aloadn (pc := 65) (n := 1) 1 rfl rfl (fm_dec dtX11_dies 50 rfl) ?_
    refine pv_iconst (pc := 66) (v := 1) (by decide) (fm_dec dtX11_dies 51 rfl) ?_
    refine pv_iloadn (pc := 67) (n := 2) 2 rfl rfl (fm_dec dtX11_dies 52 rfl) ?_
    refine pv_iadd (pc := 68) (fm_dec dtX11_dies 53 rfl) ?_
    refine pv_sipush (pc := 69) (v := (-1000)) (by decide) (fm_dec dtX11_dies 54 rfl) ?_
    refine pv_iast (k := 7) (n := 14) (pc := 72) (by decide) rfl rfl (ix_in h1i (by omega)) (fm_dec dtX11_dies 55 rfl) ?_
    rw [i32_cl h1i]
    exact pv_return (pc := 73) rfl (fm_dec dtX11_dies 56 rfl) (by first | (have hm : ¬ S.2 i = -1 := (fun h8 => h17 (n9.trans ((hs6.no ho hi).mpr h8))); have e8 : dmM M6 r6 i (decide (S.2 i = -1)) = _ := (by unfold dmM; rw [if_neg (by rw [decide_eq_true_eq]; exact hm)]); rw [e8] at h9 f9; exact hq _ S9 e9 h9 f9) | (have hm : S.2 i = -1 := (hs6.no ho hi).mp (n9.symm.trans h17); have e8 : dmM M6 r6 i (decide (S.2 i = -1)) = _ := (by unfold dmM; rw [if_pos (decide_eq_true hm)]); rw [e8] at h9 f9; exact hq _ S9 e9 h9 f9))
set_option maxRecDepth 20000 in
theorem c_mweek {M : fmM} {Q : fmR → fmM → Prop} {D : dD} {S : aS} (hD : dOk D) (hY : mdw M D) (hs : mst M D S) (ho : stO D S) (hn : weS D S = none → Q (.inl (some (.int 0))) M) (hq : ∀ (M' : fmM) (S' : aS), weS D S = some S' → mst M' D S' → mFr M M' → Q (.inl (some (.int 1))) M') : pvGood Tm 0 qX11_weekEnds [.ref 0, .ref 7] M Q := by
  refine pvGood_of (Nat.le_of_ble_eq_true rfl) ?_
  show pvEv Tm 0 qX11_weekEnds 0 [some (.ref 0), some (.ref 7)] [] M Q
  have z200 : (200 : Int32).toInt = 200 := (by decide)
  have b2 := hD.2.2.2.2.1
  have w2 := ho.1
  have g10 : (M.1 7 (Int32.toNatClampNeg 10)).toInt = (S.1.1 : Int) := hs.2.1
  refine pv_aloadn (pc := 0) (n := 1) 1 rfl rfl (fm_dec dtX11_weekEnds 0 rfl) ?_
  refine pv_bipush (pc := 1) (v := 10) (by decide) (fm_dec dtX11_weekEnds 1 rfl) ?_
  refine pv_iald (k := 7) (n := 14) (pc := 3) (by decide) rfl rfl (fm_inl (by decide)) (fm_dec dtX11_weekEnds 2 rfl) ?_
  refine pv_sipush (pc := 4) (v := 200) (by decide) (fm_dec dtX11_weekEnds 3 rfl) ?_
  refine pv_icmp_ne (pc := 7) 12 (by decide) (fm_dec dtX11_weekEnds 4 rfl) (fun hc7 => ?_) (fun hc7 => ?_)
  · refine pv_aloadn (pc := 12) (n := 1) 1 rfl rfl (fm_dec dtX11_weekEnds 7 rfl) ?_
    refine pv_bipush (pc := 13) (v := 10) (by decide) (fm_dec dtX11_weekEnds 8 rfl) ?_
    refine pv_dup2 (pc := 15) rfl rfl (fm_dec dtX11_weekEnds 9 rfl) ?_
    refine pv_iald (k := 7) (n := 14) (pc := 16) (by decide) rfl rfl (fm_inl (by decide)) (fm_dec dtX11_weekEnds 10 rfl) ?_
    refine pv_iconst (pc := 17) (v := 1) (by decide) (fm_dec dtX11_weekEnds 11 rfl) ?_
    refine pv_iadd (pc := 18) (fm_dec dtX11_weekEnds 12 rfl) ?_
    refine pv_iast (k := 7) (n := 14) (pc := 19) (by decide) rfl rfl (fm_inl (by decide)) (fm_dec dtX11_weekEnds 13 rfl) ?_
    refine pv_aloadn (pc := 20) (n := 1) 1 rfl rfl (fm_dec dtX11_weekEnds 14 rfl) ?_
    refine pv_bipush (pc := 21) (v := 9) (by decide) (fm_dec dtX11_weekEnds 15 rfl) ?_
    refine pv_aloadn (pc := 23) (n := 0) 0 rfl rfl (fm_dec dtX11_weekEnds 16 rfl) ?_
    refine pv_getR (k := 0) (j := 12) (ci := 11) (pc := 24) 4 rfl (by decide) pfl_X11_23 (by decide) rfl (by decide) (fm_dec dtX11_weekEnds 17 rfl) ?_
    refine pv_iconst (pc := 27) (v := 2) (by decide) (fm_dec dtX11_weekEnds 18 rfl) ?_
    refine pv_iald (k := 4) (n := 6) (pc := 28) (by decide) rfl rfl (fm_inl (by decide)) (fm_dec dtX11_weekEnds 19 rfl) ?_
    refine pv_iast (k := 7) (n := 14) (pc := 29) (by decide) rfl rfl (fm_inl (by decide)) (fm_dec dtX11_weekEnds 20 rfl) ?_
    refine pv_iconst (pc := 30) (v := 1) (by decide) (fm_dec dtX11_weekEnds 21 rfl) ?_
    exact pv_zreturn (pc := 31) rfl (by first | exact Or.inr rfl | exact Or.inl rfl) (fm_dec dtX11_weekEnds 22 rfl) (hq _ _ (if_neg (fun h9 => hc7 (i32_ext (by omega)))) ⟨hs.1, (by show (M.1 7 10 + 1).toInt = ((S.1.1 + 1 : Nat) : Int); exact i32_p1 hs.2.1 (by omega)), (by show (M.1 4 2).toInt = (((D.2.2.2.2 2).toNat : Nat) : Int); have g := hY.2.2.1 2 (by decide) (by decide); omega), hs.2.2.2.1, hs.2.2.2.2.1, hs.2.2.2.2.2.1, fun i hi => (by have d8 := hD.1; have g := hs.2.2.2.2.2.2 i hi; have bs := ho.2.2.2.2.2.2.1 i hi; show _ = if (if S.2 i = -1 then (-1 : Int) else S.2 i + 1) = -1 then -1000 else ((S.1.1 + 1 : Nat) : Int) - (if S.2 i = -1 then (-1 : Int) else S.2 i + 1); rw [fmI_j _ _ (by show ¬ 1 + i = 9; omega), fmI_j _ _ (by show ¬ 1 + i = 10; omega), g]; split; rfl; rw [if_neg (by omega)]; omega)⟩ ((mFr.refl M).put.put))
  · refine pv_iconst (pc := 10) (v := 0) (by decide) (fm_dec dtX11_weekEnds 5 rfl) ?_
    exact pv_zreturn (pc := 11) rfl (by first | exact Or.inr rfl | exact Or.inl rfl) (fm_dec dtX11_weekEnds 6 rfl) (hn (if_pos (by have h9 := congrArg Int32.toInt hc7; omega)))
end
-- P 18y
section
-- THE CLASS DOES A WORK
/-- told, law, state and counts, as they stand here -/
def xAll (M : fmM) (D : dD) (cs : tC) (R : gR) : Prop := xdw 3 M D ∧ lwX M cs ∧ xst M D R.1 ∧ stO D R.1 ∧ (M.1 28 4).toInt = (R.2.1 : Int) ∧ (M.1 28 5).toInt = (R.2.2.1 : Int) ∧ (M.1 28 6).toInt = (R.2.2.2 : Int) ∧ R.2.2.1 + R.2.2.2 ≤ R.2.1 ∧ R.2.1 ≤ 200
/-- numbers that can be -/
def nuO (D : dD) (ss : tS) : Prop := ss.length ≤ 150 ∧ ∀ s ∈ ss, (s.1 < 3 → s.2.1 < D.1) ∧ s.2.1 ≤ 20
/-- l stands in ss from place a on -/
def seg (ss : tS) (a : Nat) (l : tS) : Prop := ∀ i, i < l.length → ss[a + i]? = l[i]?
def pFr (M M' : fmM) : Prop := (∀ k j, k ≠ 26 → k ≠ 28 → k ≠ 47 → k ≠ 48 → M'.1 k j = M.1 k j) ∧ (∀ k j, k ≠ 47 → M'.2 k j = M.2 k j)
theorem pFr.refl (M : fmM) : pFr M M := ⟨fun _ _ _ _ _ _ => rfl, fun _ _ _ => rfl⟩
theorem pFr.trans {M M1 M2 : fmM} (h : pFr M M1) (h' : pFr M1 M2) : pFr M M2 := ⟨fun k j a b c d => (h'.1 k j a b c d).trans (h.1 k j a b c d), fun k j a => (h'.2 k j a).trans (h.2 k j a)⟩
theorem pFr.put {M M1 : fmM} {j : Nat} {x : Int32} (h : pFr M M1) : pFr M (fmI M1 28 j x) := ⟨fun k' j' a b c d => by rw [fmI_k _ _ b]; exact h.1 k' j' a b c d, h.2⟩
theorem sFr.p {M M1 : fmM} (h : sFr M M1) : pFr M M1 := ⟨fun k j a _ c d => h.1 k j a c d, h.2⟩
theorem wRep.p {M M' : fmM} {b : Nat} {ss : tS} (h : wRep M b ss) (hf : pFr M M') : wRep M' b ss := fun i c hi => by
  rw [hf.1 29 _ (by decide) (by decide) (by decide) (by decide), hf.1 30 _ (by decide) (by decide) (by decide) (by decide), hf.1 31 _ (by decide) (by decide) (by decide) (by decide)]
  exact h i c hi
theorem lwX.f {M M' : fmM} {cs : tC} (h : lwX M cs) (e : M'.1 23 3 = M.1 23 3) (e2 : ∀ i, M'.1 24 i = M.1 24 i) : lwX M' cs := ⟨by rw [e]; exact h.1, h.2.1, fun i c hi => by rw [e2]; exact h.2.2.1 i c hi, h.2.2.2⟩
theorem xAll.put {M : fmM} {D : dD} {cs : tC} {R : gR} {j : Nat} {x : Int32} (h : xAll M D cs R) (hj : 4 ≤ j ∧ j ≤ 6) : xdw 3 (fmI M 28 j x) D ∧ lwX (fmI M 28 j x) cs ∧ xst (fmI M 28 j x) D R.1 := ⟨h.1.of (fun k j' a b => by rw [fmI_k _ _ (by omega)]), h.2.1.f (by rw [fmI_k _ _ (by decide)]) (fun i => by rw [fmI_k _ _ (by decide)]), h.2.2.1.of (fun k j' a => by rw [fmI_k _ _ (by omega)]) rfl⟩
theorem seg.hd {ss : tS} {a : Nat} {s : Nat × Nat × Nat} {r : tS} (h : seg ss a (s :: r)) : ss[a]? = some s := h 0 (Nat.succ_pos _)
theorem seg.tl {ss : tS} {a : Nat} {s : Nat × Nat × Nat} {r : tS} (h : seg ss a (s :: r)) : seg ss (a + 1) r := fun i hi => by
  have h9 := h (i + 1) (by rw [List.length_cons]; omega)
  rw [show a + 1 + i = a + (i + 1) by omega]
  exact h9
theorem seg.tk {ss : tS} {a n : Nat} {r : tS} (h : seg ss a r) : seg ss a (r.take n) := fun i hi => by
  rw [List.length_take] at hi
  rw [List.getElem?_take_of_lt (by omega)]
  exact h i (by omega)
theorem seg.dp {ss : tS} {a n : Nat} {r : tS} (h : seg ss a r) : seg ss (a + n) (r.drop n) := fun i hi => by
  rw [List.length_drop] at hi
  rw [List.getElem?_drop, show a + n + i = a + (n + i) by omega]
  exact h (n + i) (by omega)
theorem go_0 {D : dD} {cs : tC} {f a : Nat} {R : gR} : goL D cs f a [] R = R := by cases f <;> rfl
theorem go_s {D : dD} {cs : tC} {f a : Nat} {l : tS} {R : gR} (h : ¬ R.2.1 < 200) : goL D cs f a l R = R := by
  cases f with
  | zero => rfl
  | succ f =>
    cases l with
    | nil => rfl
    | cons s r => exact if_neg h
theorem go_1 {D : dD} {cs : tC} {f a : Nat} {s : Nat × Nat × Nat} {r : tS} {R : gR} (h : R.2.1 < 200) (h4 : ¬ s.1 = 4) : goL D cs (f + 1) a (s :: r) R = goL D cs f (a + 1) r (oneR D cs R s.1 s.2.1) := by
  show (if R.2.1 < 200 then (if s.1 = 4 then _ else _) else R) = _
  rw [if_pos h, if_neg h4]
theorem go_4 {D : dD} {cs : tC} {f a : Nat} {s : Nat × Nat × Nat} {r : tS} {R : gR} (h : R.2.1 < 200) (h4 : s.1 = 4) : goL D cs (f + 1) a (s :: r) R = goL D cs f s.2.2 (r.drop (s.2.2 - (a + 1))) (loR (goL D cs f (a + 1) (r.take (s.2.2 - (a + 1)))) s.2.1 (R.1, R.2.1 + 1, R.2.2)) := by
  show (if R.2.1 < 200 then (if s.1 = 4 then _ else _) else R) = _
  rw [if_pos h, if_pos h4]
theorem one_g {D : dD} {cs : tC} {R : gR} {k i : Nat} : (oneR D cs R k i).2.1 = R.2.1 + 1 := by
  unfold oneR
  split <;> rfl
theorem lo_ge {F : gR → gR} (hF : ∀ R : gR, R.2.1 ≤ (F R).2.1) : ∀ (n : Nat) (R : gR), R.2.1 ≤ (loR F n R).2.1 := by
  intro n
  induction n with
  | zero => intro R; exact Nat.le_refl _
  | succ n ih =>
    intro R
    show R.2.1 ≤ (if R.2.1 < 200 then loR F n (F R) else R).2.1
    split
    · exact Nat.le_trans (hF R) (ih _)
    · exact Nat.le_refl _
theorem go_ge {D : dD} {cs : tC} : ∀ (f a : Nat) (l : tS) (R : gR), R.2.1 ≤ (goL D cs f a l R).2.1 := by
  intro f
  induction f with
  | zero => intro a l R; exact Nat.le_refl _
  | succ f ih =>
    intro a l R
    cases l with
    | nil => exact Nat.le_refl _
    | cons s r =>
      by_cases h : R.2.1 < 200
      · by_cases h4 : s.1 = 4
        · rw [go_4 h h4]
          have h1 := lo_ge (F := goL D cs f (a + 1) (r.take (s.2.2 - (a + 1)))) (fun R => ih _ _ R) s.2.1 (R.1, R.2.1 + 1, R.2.2)
          have h2 := ih s.2.2 (r.drop (s.2.2 - (a + 1))) (loR (goL D cs f (a + 1) (r.take (s.2.2 - (a + 1)))) s.2.1 (R.1, R.2.1 + 1, R.2.2))
          have h1 : R.2.1 + 1 ≤ _ := h1
          omega
        · rw [go_1 h h4]
          have h2 := ih (a + 1) r (oneR D cs R s.1 s.2.1)
          rw [one_g] at h2
          omega
      · rw [go_s h]
        exact Nat.le_refl _
theorem wn_1 {g d a : Nat} {s : Nat × Nat × Nat} {r : tS} (h : wnL g d a (s :: r)) (h4 : ¬ s.1 = 4) : s.1 < 4 ∧ s.2.2 = a + 1 ∧ ∃ g', wnL g' d (a + 1) r := by
  cases g with
  | zero => exact absurd h (by intro h; exact h)
  | succ g =>
    unfold wnL at h
    rw [if_neg h4] at h
    exact ⟨h.1, h.2.1, g, h.2.2⟩
theorem wn_4 {g d a : Nat} {s : Nat × Nat × Nat} {r : tS} (h : wnL g d a (s :: r)) (h4 : s.1 = 4) : 0 < d ∧ a + 1 ≤ s.2.2 ∧ s.2.2 ≤ a + 1 + r.length ∧ (∃ g', wnL g' (d - 1) (a + 1) (r.take (s.2.2 - (a + 1)))) ∧ ∃ g', wnL g' d s.2.2 (r.drop (s.2.2 - (a + 1))) := by
  cases g with
  | zero => exact absurd h (by intro h; exact h)
  | succ g =>
    unfold wnL at h
    rw [if_pos h4] at h
    exact ⟨h.1, h.2.1, h.2.2.1, ⟨g, h.2.2.2.1⟩, g, h.2.2.2.2⟩
/-- behind the start of perform, for the steps l that stand from place a on -/
def xpL (D : dD) (cs : tC) (ss : tS) (f : Nat) : Prop := ∀ (M : fmM) (Q : fmR → fmM → Prop) (a o g : Nat) (l : tS) (R : gR) (fr to op av : Int32) (v7 : Option Value), xAll M D cs R → wRep M 0 ss → seg ss a l → a + l.length ≤ ss.length → wnL g (6 - o) a l → o ≤ 6 → av.toInt = (a : Int) → to.toInt = ((a + l.length : Nat) : Int) → op.toInt = (o : Int) → 200 - R.2.1 < f → (∀ M' : fmM, xAll M' D cs (goL D cs f a l R) → pFr M M' → Q (.inl none) M') → pvEv Tx (12 + f) qX9_perform 3 [some (.ref 28), some (.ref 32), some (.ref 47), some (.int fr), some (.int to), some (.int op), some (.int av), v7] [] M Q
theorem xpL.go {D : dD} {cs : tC} {ss : tS} {f : Nat} (h : xpL D cs ss f) {M : fmM} {Q : fmR → fmM → Prop} {a o g : Nat} {l : tS} {R : gR} {to op fr : Int32} (h1 : xAll M D cs R) (h2 : wRep M 0 ss) (h3 : seg ss a l) (h4 : a + l.length ≤ ss.length) (h5 : wnL g (6 - o) a l) (h6 : o ≤ 6) (h7 : fr.toInt = (a : Int)) (h8 : to.toInt = ((a + l.length : Nat) : Int)) (h9 : op.toInt = (o : Int)) (h10 : 200 - R.2.1 < f) (hq : ∀ M' : fmM, xAll M' D cs (goL D cs f a l R) → pFr M M' → Q (.inl none) M') : pvGood Tx (12 + f) qX9_perform [.ref 28, .ref 32, .ref 47, .int fr, .int to, .int op] M Q := by
  refine pvGood_of (Nat.le_of_ble_eq_true rfl) ?_
  show pvEv Tx (12 + f) qX9_perform 0 [some (.ref 28), some (.ref 32), some (.ref 47), some (.int fr), some (.int to), some (.int op), none, none] [] M Q
  refine pv_iloadn (pc := 0) (n := 3) 3 rfl rfl (fm_dec dtX9_perform 0 rfl) ?_
  refine pv_istore (pc := 1) (i := 6) (by decide) rfl (fm_dec dtX9_perform 1 rfl) ?_
  dsimp only [List.set_cons_zero, List.set_cons_succ]
  exact h M Q a o g l R fr to op fr none h1 h2 h3 h4 h5 h6 h7 h8 h9 h10 hq
set_option maxRecDepth 20000 in
theorem xpe_in {Q : fmR → fmM → Prop} {D : dD} {cs : tC} {ss : tS} {f : Nat} (h : xpL D cs ss f) {a oN g9 v e : Nat} {s : Nat × Nat × Nat} {r : tS} {fr to op av : Int32} (hsa : ss[a]? = some s) (hs2 : s.2.1 = v) (hs3 : s.2.2 = e) (h4s : s.1 = 4) (hv20 : v ≤ 20) (hseg : seg ss (a + 1) r) (hlen : a + 1 + r.length ≤ ss.length) (hae : a + 1 ≤ e) (her : e ≤ a + 1 + r.length) (hwn : wnL g9 (6 - (oN + 1)) (a + 1) (r.take (e - (a + 1)))) (ho : oN < 6) (ha : av.toInt = (a : Int)) (ha150 : a < 150) (hop : op.toInt = (oN : Int)) : ∀ (q : Nat) (M : fmM) (R : gR) (c : Nat) (cc : Int32), xAll M D cs R → wRep M 0 ss → 200 - R.2.1 < f → cc.toInt = (c : Int) → c + q = v → (∀ (M' : fmM) (v7 : Option Value), xAll M' D cs (loR (goL D cs f (a + 1) (r.take (e - (a + 1)))) q R) → pFr M M' → pvEv Tx (12 + (f + 1)) qX9_perform 108 [some (.ref 28), some (.ref 32), some (.ref 47), some (.int fr), some (.int to), some (.int op), some (.int av), v7] [] M' Q) → pvEv Tx (12 + (f + 1)) qX9_perform 59 [some (.ref 28), some (.ref 32), some (.ref 47), some (.int fr), some (.int to), some (.int op), some (.int av), some (.int cc)] [] M Q := by
  intro q
  induction q with
  | zero =>
    intro M R c cc hA hW hg hc hcq hq
    have hrow := hW a s hsa
    rw [Nat.zero_add] at hrow
    have hv9 : (M.1 30 a).toInt = (v : Int) := hrow.2.1.trans (by rw [hs2])
    have he9 : (M.1 31 a).toInt = (e : Int) := (hrow.2.2 h4s).trans (by rw [hs3])
    refine pv_iload (pc := 59) (i := 7) rfl (fm_dec dtX9_perform 29 rfl) ?_
    refine pv_aloadn (pc := 61) (n := 0) 0 rfl rfl (fm_dec dtX9_perform 30 rfl) ?_
    refine pv_getR (k := 28) (j := 1) (ci := 9) (pc := 62) 30 rfl (by decide) pfl_X9_15 (by decide) rfl (by decide) (fm_dec dtX9_perform 31 rfl) ?_
    refine pv_iload (pc := 65) (i := 6) rfl (fm_dec dtX9_perform 32 rfl) ?_
    refine pv_iald (k := 30) (n := 150) (pc := 67) (by decide) rfl rfl (ix_in ha ha150) (fm_dec dtX9_perform 33 rfl) ?_
    refine pv_icmp_ge (pc := 68) 108 (by decide) (fm_dec dtX9_perform 34 rfl) (fun _ => ?_) (fun hc68 => by exfalso; apply hc68; rw [sc_le, i32_cl ha]; omega)
    exact hq M _ hA (pFr.refl M)
  | succ q ih =>
    intro M R c cc hA hW hg hc hcq hq
    have hrow := hW a s hsa
    rw [Nat.zero_add] at hrow
    have hv9 : (M.1 30 a).toInt = (v : Int) := hrow.2.1.trans (by rw [hs2])
    have he9 : (M.1 31 a).toInt = (e : Int) := (hrow.2.2 h4s).trans (by rw [hs3])
    refine pv_iload (pc := 59) (i := 7) rfl (fm_dec dtX9_perform 29 rfl) ?_
    refine pv_aloadn (pc := 61) (n := 0) 0 rfl rfl (fm_dec dtX9_perform 30 rfl) ?_
    refine pv_getR (k := 28) (j := 1) (ci := 9) (pc := 62) 30 rfl (by decide) pfl_X9_15 (by decide) rfl (by decide) (fm_dec dtX9_perform 31 rfl) ?_
    refine pv_iload (pc := 65) (i := 6) rfl (fm_dec dtX9_perform 32 rfl) ?_
    refine pv_iald (k := 30) (n := 150) (pc := 67) (by decide) rfl rfl (ix_in ha ha150) (fm_dec dtX9_perform 33 rfl) ?_
    refine pv_icmp_ge (pc := 68) 108 (by decide) (fm_dec dtX9_perform 34 rfl) (fun hc68 => by exfalso; rw [sc_le, i32_cl ha] at hc68; omega) (fun _ => ?_)
    refine pv_aloadn (pc := 71) (n := 0) 0 rfl rfl (fm_dec dtX9_perform 35 rfl) ?_
    refine pv_getI (k := 28) (j := 4) (ci := 9) (pc := 72) pfl_X9_25 (by decide) rfl (by decide) (fm_dec dtX9_perform 36 rfl) ?_
    refine pv_sipush (pc := 75) (v := 200) (by decide) (fm_dec dtX9_perform 37 rfl) ?_
    refine pv_icmp_ge (pc := 78) 108 (by decide) (fm_dec dtX9_perform 38 rfl) (fun hc78 => ?_) (fun hc78 => ?_)
    · have eL : loR (goL D cs f (a + 1) (r.take (e - (a + 1)))) (q + 1) R = R := if_neg (by rw [sc_le] at hc78; have z200 : (200 : Int32).toInt = 200 := (by decide); have h9 := hA.2.2.2.2.1; omega)
      rw [eL] at hq
      exact hq M _ hA (pFr.refl M)
    · have hg2 : R.2.1 < 200 := (by rw [sc_le] at hc78; have z200 : (200 : Int32).toInt = 200 := (by decide); have h9 := hA.2.2.2.2.1; omega)
      have eL : loR (goL D cs f (a + 1) (r.take (e - (a + 1)))) (q + 1) R = loR (goL D cs f (a + 1) (r.take (e - (a + 1)))) q ((goL D cs f (a + 1) (r.take (e - (a + 1)))) R) := if_pos hg2
      rw [eL] at hq
      refine pv_aloadn (pc := 81) (n := 0) 0 rfl rfl (fm_dec dtX9_perform 39 rfl) ?_
      refine pv_aloadn (pc := 82) (n := 1) 1 rfl rfl (fm_dec dtX9_perform 40 rfl) ?_
      refine pv_aloadn (pc := 83) (n := 2) 2 rfl rfl (fm_dec dtX9_perform 41 rfl) ?_
      refine pv_iload (pc := 84) (i := 6) rfl (fm_dec dtX9_perform 42 rfl) ?_
      refine pv_iconst (pc := 86) (v := 1) (by decide) (fm_dec dtX9_perform 43 rfl) ?_
      refine pv_iadd (pc := 87) (fm_dec dtX9_perform 44 rfl) ?_
      refine pv_aloadn (pc := 88) (n := 0) 0 rfl rfl (fm_dec dtX9_perform 45 rfl) ?_
      refine pv_getR (k := 28) (j := 2) (ci := 9) (pc := 89) 31 rfl (by decide) pfl_X9_18 (by decide) rfl (by decide) (fm_dec dtX9_perform 46 rfl) ?_
      refine pv_iload (pc := 92) (i := 6) rfl (fm_dec dtX9_perform 47 rfl) ?_
      refine pv_iald (k := 31) (n := 150) (pc := 94) (by decide) rfl rfl (ix_in ha ha150) (fm_dec dtX9_perform 48 rfl) ?_
      refine pv_iload (pc := 95) (i := 5) rfl (fm_dec dtX9_perform 49 rfl) ?_
      refine pv_iconst (pc := 97) (v := 1) (by decide) (fm_dec dtX9_perform 50 rfl) ?_
      refine pv_iadd (pc := 98) (fm_dec dtX9_perform 51 rfl) ?_
      refine pv_invV5 (k := 28) (d' := (12 + f)) (pc := 99) pcv_X9_76 (by decide) rfl (Nat.le_of_ble_eq_true rfl) (by omega) (fm_dec dtX9_perform 52 rfl) ?_
      refine h.go (a := a + 1) (o := oN + 1) (g := g9) hA hW (seg.tk hseg) (by rw [List.length_take]; omega) hwn (by omega) (i32_p1 ha (by omega)) (by rw [i32_cl ha, he9, List.length_take]; omega) (i32_p1 hop (by omega)) hg (fun M99 h99 f99 => ?_) 
      refine pv_then0 ?_
      refine pv_iincc (pc := 102) 7 1 (by decide) rfl (by decide) rfl (fm_dec dtX9_perform 53 rfl) ?_
      dsimp only [List.set_cons_zero, List.set_cons_succ]
      refine pv_goto (pc := 105) 59 (by decide) (fm_dec dtX9_perform 54 rfl) ?_
      exact ih M99 _ (c + 1) _ h99 (hW.p f99) (by have h9 := go_ge (D := D) (cs := cs) f (a + 1) (r.take (e - (a + 1))) R; omega) (i32_p1 hc (by omega)) (by omega) (fun M' v7 a1 b1 => hq M' v7 a1 (f99.trans b1))
set_option maxRecDepth 20000 in
theorem xp_E {D : dD} {cs : tC} {ss : tS} (hD : dOk D) (hN : nuO D ss) : ∀ f, xpL D cs ss f := by
  intro f
  induction f with
  | zero =>
    intro M Q a o g l R fr to op av v7 hA hW hseg hlen hwn ho6 ha ht hop hf hq
    omega
  | succ f ih =>
    intro M Q a o g l R fr to op av v7 hA hW hseg hlen hwn ho6 ha ht hop hf hq
    refine pv_iload (pc := 3) (i := 6) rfl (fm_dec dtX9_perform 2 rfl) ?_
    refine pv_iload (pc := 5) (i := 4) rfl (fm_dec dtX9_perform 3 rfl) ?_
    refine pv_icmp_ge (pc := 7) 178 (by decide) (fm_dec dtX9_perform 4 rfl) (fun hc7 => ?_) (fun hc7 => ?_)
    · exact pv_return (pc := 178) rfl (fm_dec dtX9_perform 92 rfl) (by have el : l = [] := (by cases l with | nil => rfl | cons s r => (rw [sc_le] at hc7; rw [List.length_cons] at ht; omega)); subst el; rw [go_0] at hq; exact hq M hA (pFr.refl M))
    · obtain ⟨s, r, rfl⟩ : ∃ s r, l = s :: r := (by cases l with | nil => (rw [sc_le] at hc7; rw [List.length_nil] at ht; omega) | cons s r => exact ⟨s, r, rfl⟩)
      rw [List.length_cons] at ht hlen
      have ha150 : a < 150 := (by have := hN.1; omega)
      have hsa := hseg.hd
      have hnu := hN.2 s (List.mem_of_getElem? hsa)
      refine pv_iload (pc := 10) (i := 6) rfl (fm_dec dtX9_perform 5 rfl) ?_
      refine pv_sipush (pc := 12) (v := 150) (by decide) (fm_dec dtX9_perform 6 rfl) ?_
      refine pv_icmp_ge (pc := 15) 178 (by decide) (fm_dec dtX9_perform 7 rfl) (fun hc15 => by exfalso; rw [sc_le] at hc15; have z150 : (150 : Int32).toInt = 150 := (by decide); omega) (fun _ => ?_)
      refine pv_aloadn (pc := 18) (n := 0) 0 rfl rfl (fm_dec dtX9_perform 8 rfl) ?_
      refine pv_getI (k := 28) (j := 4) (ci := 9) (pc := 19) pfl_X9_25 (by decide) rfl (by decide) (fm_dec dtX9_perform 9 rfl) ?_
      refine pv_sipush (pc := 22) (v := 200) (by decide) (fm_dec dtX9_perform 10 rfl) ?_
      refine pv_icmp_ge (pc := 25) 178 (by decide) (fm_dec dtX9_perform 11 rfl) (fun hc25 => ?_) (fun hc25 => ?_)
      · exact pv_return (pc := 178) rfl (fm_dec dtX9_perform 92 rfl) (by rw [go_s (by rw [sc_le] at hc25; have z200 : (200 : Int32).toInt = 200 := (by decide); have h9 := hA.2.2.2.2.1; omega)] at hq; exact hq M hA (pFr.refl M))
      · have hg2 : R.2.1 < 200 := (by rw [sc_le] at hc25; have z200 : (200 : Int32).toInt = 200 := (by decide); have h9 := hA.2.2.2.2.1; omega)
        have hP1 := hA.put (x := M.1 28 4 + 1) (show 4 ≤ 4 ∧ 4 ≤ 6 by decide)
        have e4 : ((fmI M 28 4 (M.1 28 4 + 1)).1 28 4).toInt = ((R.2.1 + 1 : Nat) : Int) := (by rw [fmI_s]; exact i32_p1 hA.2.2.2.2.1 (by omega))
        have f1 : pFr M (fmI M 28 4 (M.1 28 4 + 1)) := (pFr.refl M).put
        have hW1 : wRep (fmI M 28 4 (M.1 28 4 + 1)) 0 ss := hW.p f1
        have hA1 : xAll (fmI M 28 4 (M.1 28 4 + 1)) D cs (R.1, R.2.1 + 1, R.2.2) := ⟨hP1.1, hP1.2.1, hP1.2.2, hA.2.2.2.1, e4, hA.2.2.2.2.2.1, hA.2.2.2.2.2.2.1, (by show R.2.2.1 + R.2.2.2 ≤ R.2.1 + 1; have := hA.2.2.2.2.2.2.2.1; omega), hg2⟩
        have hrow1 := hW1 a s hsa
        rw [Nat.zero_add] at hrow1
        refine pv_iload (pc := 28) (i := 5) rfl (fm_dec dtX9_perform 12 rfl) ?_
        refine pv_bipush (pc := 30) (v := 6) (by decide) (fm_dec dtX9_perform 13 rfl) ?_
        refine pv_icmp_gt (pc := 32) 178 (by decide) (fm_dec dtX9_perform 14 rfl) (fun hc32 => by exfalso; rw [sc_lt] at hc32; have z6 : (6 : Int32).toInt = 6 := (by decide); omega) (fun _ => ?_)
        refine pv_aloadn (pc := 35) (n := 0) 0 rfl rfl (fm_dec dtX9_perform 15 rfl) ?_
        refine pv_dup (pc := 36) rfl (fm_dec dtX9_perform 16 rfl) ?_
        refine pv_getI (k := 28) (j := 4) (ci := 9) (pc := 37) pfl_X9_25 (by decide) rfl (by decide) (fm_dec dtX9_perform 17 rfl) ?_
        refine pv_iconst (pc := 40) (v := 1) (by decide) (fm_dec dtX9_perform 18 rfl) ?_
        refine pv_iadd (pc := 41) (fm_dec dtX9_perform 19 rfl) ?_
        refine pv_putI (k := 28) (j := 4) (ci := 9) (pc := 42) pfl_X9_25 (by decide) rfl (by decide) (fm_dec dtX9_perform 20 rfl) ?_
        refine pv_aloadn (pc := 45) (n := 0) 0 rfl rfl (fm_dec dtX9_perform 21 rfl) ?_
        refine pv_getR (k := 28) (j := 0) (ci := 9) (pc := 46) 29 rfl (by decide) pfl_X9_9 (by decide) rfl (by decide) (fm_dec dtX9_perform 22 rfl) ?_
        refine pv_iload (pc := 49) (i := 6) rfl (fm_dec dtX9_perform 23 rfl) ?_
        refine pv_iald (k := 29) (n := 150) (pc := 51) (by decide) rfl rfl (ix_in ha ha150) (fm_dec dtX9_perform 24 rfl) ?_
        refine pv_iconst (pc := 52) (v := 4) (by decide) (fm_dec dtX9_perform 25 rfl) ?_
        refine pv_icmp_ne (pc := 53) 127 (by decide) (fm_dec dtX9_perform 26 rfl) (fun hc53 => ?_) (fun hc53 => ?_)
        · have h4 : ¬ s.1 = 4 := (fun h9 => hc53 (i32_ext (by rw [i32_cl ha, hrow1.1, h9]; decide)))
          obtain ⟨hk4, hs2, g8, w8⟩ := wn_1 hwn h4
          rw [go_1 hg2 h4] at hq
          refine pv_aloadn (pc := 127) (n := 1) 1 rfl rfl (fm_dec dtX9_perform 65 rfl) ?_
          refine pv_aloadn (pc := 128) (n := 2) 2 rfl rfl (fm_dec dtX9_perform 66 rfl) ?_
          refine pv_aloadn (pc := 129) (n := 0) 0 rfl rfl (fm_dec dtX9_perform 67 rfl) ?_
          refine pv_getR (k := 28) (j := 0) (ci := 9) (pc := 130) 29 rfl (by decide) pfl_X9_9 (by decide) rfl (by decide) (fm_dec dtX9_perform 68 rfl) ?_
          refine pv_iload (pc := 133) (i := 6) rfl (fm_dec dtX9_perform 69 rfl) ?_
          refine pv_iald (k := 29) (n := 150) (pc := 135) (by decide) rfl rfl (ix_in ha ha150) (fm_dec dtX9_perform 70 rfl) ?_
          refine pv_aloadn (pc := 136) (n := 0) 0 rfl rfl (fm_dec dtX9_perform 71 rfl) ?_
          refine pv_getR (k := 28) (j := 1) (ci := 9) (pc := 137) 30 rfl (by decide) pfl_X9_15 (by decide) rfl (by decide) (fm_dec dtX9_perform 72 rfl) ?_
          refine pv_iload (pc := 140) (i := 6) rfl (fm_dec dtX9_perform 73 rfl) ?_
          refine pv_iald (k := 30) (n := 150) (pc := 142) (by decide) rfl rfl (ix_in ha ha150) (fm_dec dtX9_perform 74 rfl) ?_
          refine pv_iS4 (d' := 5) (pc := 143) pcs_X9_85 (Nat.le_of_ble_eq_true rfl) (by omega) (fm_dec dtX9_perform 75 rfl) ?_
          refine c_xps (k := s.1) (i := s.2.1) (by rw [i32_cl ha]; exact hrow1.1) (by rw [i32_cl ha]; exact hrow1.2.1) hk4 (by have := hnu.2; omega) hD hP1.1 hP1.2.1 hP1.2.2 hA.2.2.2.1 (fun h9 => hnu.1 h9) (fun h143 => ?_) (fun M9 S9 h143 x143 f143 => ?_)  
          · refine pv_then1 ?_
            refine pv_if_eq (pc := 146) 162 (by decide) (fm_dec dtX9_perform 76 rfl) (fun _ => ?_) (fun hc146 => by exfalso; revert hc146; decide)
            refine pv_aloadn (pc := 162) (n := 0) 0 rfl rfl (fm_dec dtX9_perform 84 rfl) ?_
            refine pv_dup (pc := 163) rfl (fm_dec dtX9_perform 85 rfl) ?_
            refine pv_getI (k := 28) (j := 6) (ci := 9) (pc := 164) pfl_X9_31 (by decide) rfl (by decide) (fm_dec dtX9_perform 86 rfl) ?_
            refine pv_iconst (pc := 167) (v := 1) (by decide) (fm_dec dtX9_perform 87 rfl) ?_
            refine pv_iadd (pc := 168) (fm_dec dtX9_perform 88 rfl) ?_
            refine pv_putI (k := 28) (j := 6) (ci := 9) (pc := 169) pfl_X9_31 (by decide) rfl (by decide) (fm_dec dtX9_perform 89 rfl) ?_
            refine pv_iincc (pc := 172) 6 1 (by decide) rfl (by decide) rfl (fm_dec dtX9_perform 90 rfl) ?_
            dsimp only [List.set_cons_zero, List.set_cons_succ]
            refine pv_goto (pc := 175) 3 (by decide) (fm_dec dtX9_perform 91 rfl) ?_
            have eR : oneR D cs R s.1 s.2.1 = (R.1, R.2.1 + 1, R.2.2.1, R.2.2.2 + 1) := (by unfold oneR; rw [h143])
            rw [eR] at hq
            have hP2 := hA1.put (x := (fmI M 28 4 (M.1 28 4 + 1)).1 28 6 + 1) (show 4 ≤ 6 ∧ 6 ≤ 6 by decide)
            refine (ih _ Q (a + 1) o g8 r (R.1, R.2.1 + 1, R.2.2.1, R.2.2.2 + 1) _ _ _ _ _ ⟨hP2.1, hP2.2.1, hP2.2.2, hA.2.2.2.1, e4, hA.2.2.2.2.2.1, (by rw [fmI_s]; exact i32_p1 hA.2.2.2.2.2.2.1 (by have := hA.2.2.2.2.2.2.2.1; omega)), (by show R.2.2.1 + (R.2.2.2 + 1) ≤ R.2.1 + 1; have := hA.2.2.2.2.2.2.2.1; omega), hg2⟩ (hW.p (f1.put)) hseg.tl (by omega) w8 ho6 (i32_p1 ha (by omega)) (by rw [ht]; congr 1; omega) hop (by show 200 - (R.2.1 + 1) < f; omega) (fun M' h1 h2 => hq M' h1 ((f1.put).trans h2))).up (by omega)
          · refine pv_then1 ?_
            refine pv_if_eq (pc := 146) 162 (by decide) (fm_dec dtX9_perform 76 rfl) (fun hc146 => by exfalso; revert hc146; decide) (fun _ => ?_)
            refine pv_aloadn (pc := 149) (n := 0) 0 rfl rfl (fm_dec dtX9_perform 77 rfl) ?_
            refine pv_dup (pc := 150) rfl (fm_dec dtX9_perform 78 rfl) ?_
            refine pv_getI (k := 28) (j := 5) (ci := 9) (pc := 151) pfl_X9_28 (by decide) rfl (by decide) (fm_dec dtX9_perform 79 rfl) ?_
            refine pv_iconst (pc := 154) (v := 1) (by decide) (fm_dec dtX9_perform 80 rfl) ?_
            refine pv_iadd (pc := 155) (fm_dec dtX9_perform 81 rfl) ?_
            refine pv_putI (k := 28) (j := 5) (ci := 9) (pc := 156) pfl_X9_28 (by decide) rfl (by decide) (fm_dec dtX9_perform 82 rfl) ?_
            refine pv_goto (pc := 159) 172 (by decide) (fm_dec dtX9_perform 83 rfl) ?_
            refine pv_iincc (pc := 172) 6 1 (by decide) rfl (by decide) rfl (fm_dec dtX9_perform 90 rfl) ?_
            dsimp only [List.set_cons_zero, List.set_cons_succ]
            refine pv_goto (pc := 175) 3 (by decide) (fm_dec dtX9_perform 91 rfl) ?_
            have eR : oneR D cs R s.1 s.2.1 = (S9, R.2.1 + 1, R.2.2.1 + 1, R.2.2.2) := (by unfold oneR; rw [h143])
            rw [eR] at hq
            have fM : pFr M M9 := f1.trans f143.p
            have hO9 := do_ok hD hA.2.2.2.1 hnu.1 h143
            have x9 : xAll (fmI M9 28 5 (M9.1 28 5 + 1)) D cs (S9, R.2.1 + 1, R.2.2.1 + 1, R.2.2.2) := ⟨hP1.1.of (fun k j a1 b1 => by rw [fmI_k _ _ (by omega), f143.1 k j (by omega) (by omega) (by omega)]), hP1.2.1.f (by rw [fmI_k _ _ (by decide), f143.1 23 3 (by decide) (by decide) (by decide)]) (fun i => by rw [fmI_k _ _ (by decide), f143.1 24 i (by decide) (by decide) (by decide)]), x143.of (fun k j a1 => by rw [fmI_k _ _ (by omega)]) rfl, hO9, (by rw [fmI_j _ _ (by decide), f143.1 28 4 (by decide) (by decide) (by decide)]; exact e4), (by rw [fmI_s, f143.1 28 5 (by decide) (by decide) (by decide)]; exact i32_p1 hA.2.2.2.2.2.1 (by have := hA.2.2.2.2.2.2.2.1; omega)), (by rw [fmI_j _ _ (by decide), f143.1 28 6 (by decide) (by decide) (by decide)]; exact hA.2.2.2.2.2.2.1), (by show R.2.2.1 + 1 + R.2.2.2 ≤ R.2.1 + 1; have := hA.2.2.2.2.2.2.2.1; omega), hg2⟩
            refine (ih _ Q (a + 1) o g8 r (S9, R.2.1 + 1, R.2.2.1 + 1, R.2.2.2) _ _ _ _ _ x9 (hW.p (fM.put)) hseg.tl (by omega) w8 ho6 (i32_p1 ha (by omega)) (by rw [ht]; congr 1; omega) hop (by show 200 - (R.2.1 + 1) < f; omega) (fun M' h1 h2 => hq M' h1 ((fM.put).trans h2))).up (by omega)
        · have h4 : s.1 = 4 := (by have h9 := congrArg Int32.toInt hc53; rw [i32_cl ha, hrow1.1] at h9; have z4 : (4 : Int32).toInt = 4 := (by decide); omega)
          have hwn := wn_4 hwn h4
          rw [go_4 hg2 h4] at hq
          refine pv_iconst (pc := 56) (v := 0) (by decide) (fm_dec dtX9_perform 27 rfl) ?_
          refine pv_istore (pc := 57) (i := 7) (by decide) rfl (fm_dec dtX9_perform 28 rfl) ?_
          dsimp only [List.set_cons_zero, List.set_cons_succ]
          obtain ⟨w1, w2, w3, ⟨g9, w4⟩, g8, w5⟩ := hwn
          have hlt : R.2.1 + 1 ≤ (loR (goL D cs f (a + 1) (r.take (s.2.2 - (a + 1)))) s.2.1 (R.1, R.2.1 + 1, R.2.2)).2.1 := lo_ge (fun R => go_ge f _ _ R) s.2.1 (R.1, R.2.1 + 1, R.2.2)
          refine xpe_in ih hsa rfl rfl h4 hnu.2 hseg.tl (by omega) w2 w3 (by rw [show 6 - (o + 1) = 6 - o - 1 by omega]; exact w4) (by omega) ha ha150 hop s.2.1 _ _ 0 0 hA1 hW1 (by show 200 - (R.2.1 + 1) < f; omega) (by decide) (by omega) (fun M9 v9 a9 f9 => ?_)
          have hr9 := (hW1.p f9) a s hsa
          rw [Nat.zero_add] at hr9
          refine pv_iload (pc := 108) (i := 6) rfl (fm_dec dtX9_perform 55 rfl) ?_
          refine pv_iconst (pc := 110) (v := 1) (by decide) (fm_dec dtX9_perform 56 rfl) ?_
          refine pv_iadd (pc := 111) (fm_dec dtX9_perform 57 rfl) ?_
          refine pv_aloadn (pc := 112) (n := 0) 0 rfl rfl (fm_dec dtX9_perform 58 rfl) ?_
          refine pv_getR (k := 28) (j := 2) (ci := 9) (pc := 113) 31 rfl (by decide) pfl_X9_18 (by decide) rfl (by decide) (fm_dec dtX9_perform 59 rfl) ?_
          refine pv_iload (pc := 116) (i := 6) rfl (fm_dec dtX9_perform 60 rfl) ?_
          refine pv_iald (k := 31) (n := 150) (pc := 118) (by decide) rfl rfl (ix_in ha ha150) (fm_dec dtX9_perform 61 rfl) ?_
          refine pv_mm (pc := 119) pmm_X9_80 (by omega) (Nat.le_of_ble_eq_true rfl) (fm_dec dtX9_perform 62 rfl) ?_
          refine pv_istore (pc := 122) (i := 6) (by decide) rfl (fm_dec dtX9_perform 63 rfl) ?_
          dsimp only [List.set_cons_zero, List.set_cons_succ]
          refine pv_goto (pc := 124) 3 (by decide) (fm_dec dtX9_perform 64 rfl) ?_
          have em : (pvMx true (av + 1) (M9.1 31 av.toNatClampNeg)).toInt = (s.2.2 : Int) := (by rw [mxt, i32_cl ha, hr9.2.2 h4, i32_p1 ha (by omega)]; omega)
          refine (ih M9 Q s.2.2 o g8 (r.drop (s.2.2 - (a + 1))) _ _ _ _ _ _ a9 (hW1.p f9) (by have h8 := hseg.tl.dp (n := s.2.2 - (a + 1)); rw [show a + 1 + (s.2.2 - (a + 1)) = s.2.2 by omega] at h8; exact h8) (by rw [List.length_drop]; omega) w5 ho6 em (by rw [ht, List.length_drop]; congr 1; omega) hop (by omega) (fun M' h1 h2 => hq M' h1 ((f1.trans f9).trans h2))).up (by omega)
end
-- P 18ya
section
-- THE REFERENCE DOES A WORK
set_option maxRecDepth 20000 in
theorem c_mds0 {M : fmM} {Q : fmR → fmM → Prop} {D : dD} {cs : tC} {S : aS} {b i : Nat} (hD : dOk D) (hY : mdw M D) (hL : lwM M cs) (hd : cs = [] ∨ dpB 23 0 cs = some 1) (hs : mst M D S) (ho : stO D S) (hb : b < 80) (hk : M.1 (423 + b) 0 = nI 0) (hi1 : (M.1 (423 + b) 1).toInt = (i : Int)) (hi : i < D.1) (hn : doS D cs S 0 i = none → Q (.inl (some (.int 0))) M) (hq : ∀ (M' : fmM) (S' : aS), doS D cs S 0 i = some S' → mst M' D S' → mFr M M' → Q (.inl (some (.int 1))) M') : pvGood Tm 9 qX11_does [.ref 0, .ref 7, .ref (423 + b)] M Q := by
  refine pvGood_of (Nat.le_of_ble_eq_true rfl) ?_
  show pvEv Tm 9 qX11_does 0 [some (.ref 0), some (.ref 7), some (.ref (423 + b)), none] [] M Q
  have d8 := hD.1
  have hi9 : (nI i).toInt = (i : Int) := nI_toInt (by omega)
  have hi8 : i < 8 := (by omega)
  have ei : M.1 (423 + b) (Int32.toNatClampNeg 1) = nI i := nI_is hi1 (by have := hD.1; omega)
  have e0 : M.1 7 (Int32.toNatClampNeg 0) = nI S.1.2.2.1 := nI_is hs.1 (by have := ho.2.2.1; omega)
  have hno := hs.no ho hi
  have h12 := ho.2.1
  have hh := hrV_n hD hY hs ho hi
  have g9 : (M.1 7 (Int32.toNatClampNeg 9)).toInt = (S.1.2.1 : Int) := hs.2.2.1
  have hk9 : M.1 (423 + b) (Int32.toNatClampNeg 0) = nI 0 := hk
  refine pv_aloadn (pc := 0) (n := 2) 2 rfl rfl (fm_dec dtX11_does 0 rfl) ?_
  refine pv_iconst (pc := 1) (v := 1) (by decide) (fm_dec dtX11_does 1 rfl) ?_
  refine pv_iald (k := (423 + b)) (n := 3) (pc := 2) (rw_step.2.2.2 _ hb).2.2.1 (rw_step.2.2.2 _ hb).2.2.2.1 (rw_step.2.2.2 _ hb).2.2.2.2 (fm_inl (by decide)) (fm_dec dtX11_does 2 rfl) ?_
  refine pv_istoren (pc := 3) (n := 3) 3 rfl (by decide) rfl (fm_dec dtX11_does 3 rfl) ?_
  dsimp only [List.set_cons_zero, List.set_cons_succ]
  rw [ei]
  refine pv_aloadn (pc := 4) (n := 2) 2 rfl rfl (fm_dec dtX11_does 4 rfl) ?_
  refine pv_iconst (pc := 5) (v := 0) (by decide) (fm_dec dtX11_does 5 rfl) ?_
  refine pv_iald (k := (423 + b)) (n := 3) (pc := 6) (rw_step.2.2.2 _ hb).2.2.1 (rw_step.2.2.2 _ hb).2.2.2.1 (rw_step.2.2.2 _ hb).2.2.2.2 (fm_inl (by decide)) (fm_dec dtX11_does 6 rfl) ?_
  refine pv_table (pc := 7) 32 (by decide) (by have h9 : M.1 (423 + b) (Int32.toNatClampNeg 0) = nI 0 := hk; rw [h9]; decide) (fm_dec dtX11_does 7 rfl) ?_
  refine pv_aloadn (pc := 32) (n := 0) 0 rfl rfl (fm_dec dtX11_does 8 rfl) ?_
  refine pv_aloadn (pc := 33) (n := 1) 1 rfl rfl (fm_dec dtX11_does 9 rfl) ?_
  refine pv_iloadn (pc := 34) (n := 3) 3 rfl rfl (fm_dec dtX11_does 10 rfl) ?_
  refine pv_invV2 (k := 0) (d' := 1) (pc := 35) pcv_X11_296 (by decide) rfl (Nat.le_of_ble_eq_true rfl) (by decide) (fm_dec dtX11_does 11 rfl) ?_
  refine c_mmay hD hs ho hi (fun h35a h35b => ?_) (fun h35 => ?_)
  · refine pv_then1 ?_
    refine pv_if_eq (pc := 38) 74 (by decide) (fm_dec dtX11_does 12 rfl) (fun hc38 => by exfalso; revert hc38; decide) (fun _ => ?_)
    refine pv_aloadn (pc := 41) (n := 1) 1 rfl rfl (fm_dec dtX11_does 13 rfl) ?_
    refine pv_iloadn (pc := 42) (n := 3) 3 rfl rfl (fm_dec dtX11_does 14 rfl) ?_
    refine pv_iS2 (d' := 0) (pc := 43) pcs_X11_283 (Nat.le_of_ble_eq_true rfl) (by decide) (fm_dec dtX11_does 15 rfl) ?_
    refine c_hasPiece7 hi9 hi8 (fun h43 => ?_) (fun h43 => ?_)
    · refine pv_then1 ?_
      refine pv_aloadn (pc := 46) (n := 2) 2 rfl rfl (fm_dec dtX11_does 16 rfl) ?_
      refine pv_iconst (pc := 47) (v := 0) (by decide) (fm_dec dtX11_does 17 rfl) ?_
      refine pv_iald (k := (423 + b)) (n := 3) (pc := 48) (rw_step.2.2.2 _ hb).2.2.1 (rw_step.2.2.2 _ hb).2.2.2.1 (rw_step.2.2.2 _ hb).2.2.2.2 (fm_inl (by decide)) (fm_dec dtX11_does 18 rfl) ?_
      refine pv_iconst (pc := 49) (v := 1) (by decide) (fm_dec dtX11_does 19 rfl) ?_
      refine pv_icmp_ne (pc := 50) 57 (by decide) (fm_dec dtX11_does 20 rfl) (fun _ => ?_) (fun hc50 => by exfalso; rw [hk9] at hc50; revert hc50; decide)
      refine pv_iconst (pc := 57) (v := 0) (by decide) (fm_dec dtX11_does 23 rfl) ?_
      refine pv_icmp_ne (pc := 58) 74 (by decide) (fm_dec dtX11_does 24 rfl) (fun _ => ?_) (fun hc58 => by exfalso; revert hc58; decide)
      refine pv_iconst (pc := 74) (v := 0) (by decide) (fm_dec dtX11_does 33 rfl) ?_
      exact pv_zreturn (pc := 75) rfl (by first | exact Or.inr rfl | exact Or.inl rfl) (fm_dec dtX11_does 34 rfl) (hn (by have hm : ¬ S.2 i = -1 := (fun h8 => h43 (hno.mpr h8)); show (if S.2 i = -1 then puS D S i else none) = _; rw [if_neg hm]))
    · refine pv_then1 ?_
      refine pv_aloadn (pc := 46) (n := 2) 2 rfl rfl (fm_dec dtX11_does 16 rfl) ?_
      refine pv_iconst (pc := 47) (v := 0) (by decide) (fm_dec dtX11_does 17 rfl) ?_
      refine pv_iald (k := (423 + b)) (n := 3) (pc := 48) (rw_step.2.2.2 _ hb).2.2.1 (rw_step.2.2.2 _ hb).2.2.2.1 (rw_step.2.2.2 _ hb).2.2.2.2 (fm_inl (by decide)) (fm_dec dtX11_does 18 rfl) ?_
      refine pv_iconst (pc := 49) (v := 1) (by decide) (fm_dec dtX11_does 19 rfl) ?_
      refine pv_icmp_ne (pc := 50) 57 (by decide) (fm_dec dtX11_does 20 rfl) (fun _ => ?_) (fun hc50 => by exfalso; rw [hk9] at hc50; revert hc50; decide)
      refine pv_iconst (pc := 57) (v := 0) (by decide) (fm_dec dtX11_does 23 rfl) ?_
      refine pv_icmp_ne (pc := 58) 74 (by decide) (fm_dec dtX11_does 24 rfl) (fun hc58 => by exfalso; revert hc58; decide) (fun _ => ?_)
      refine pv_aloadn (pc := 61) (n := 0) 0 rfl rfl (fm_dec dtX11_does 25 rfl) ?_
      refine pv_aloadn (pc := 62) (n := 1) 1 rfl rfl (fm_dec dtX11_does 26 rfl) ?_
      refine pv_iloadn (pc := 63) (n := 3) 3 rfl rfl (fm_dec dtX11_does 27 rfl) ?_
      refine pv_invV2 (k := 0) (d' := 2) (pc := 64) pcv_X11_290 (by decide) rfl (Nat.le_of_ble_eq_true rfl) (by decide) (fm_dec dtX11_does 28 rfl) ?_
      refine c_hours7 hi9 hi8 (h5_ne hD hY) ?_
      refine pv_then1 ?_
      refine pv_aloadn (pc := 67) (n := 1) 1 rfl rfl (fm_dec dtX11_does 29 rfl) ?_
      refine pv_bipush (pc := 68) (v := 9) (by decide) (fm_dec dtX11_does 30 rfl) ?_
      refine pv_iald (k := 7) (n := 14) (pc := 70) (by decide) rfl rfl (fm_inl (by decide)) (fm_dec dtX11_does 31 rfl) ?_
      refine pv_icmp_le (pc := 71) 76 (by decide) (fm_dec dtX11_does 32 rfl) (fun hc71 => ?_) (fun hc71 => ?_)
      · refine pv_aloadn (pc := 76) (n := 0) 0 rfl rfl (fm_dec dtX11_does 35 rfl) ?_
        refine pv_aloadn (pc := 77) (n := 1) 1 rfl rfl (fm_dec dtX11_does 36 rfl) ?_
        refine pv_iloadn (pc := 78) (n := 3) 3 rfl rfl (fm_dec dtX11_does 37 rfl) ?_
        refine pv_invV2 (k := 0) (d' := 3) (pc := 79) pcv_X11_299 (by decide) rfl (Nat.le_of_ble_eq_true rfl) (by decide) (fm_dec dtX11_does 38 rfl) ?_
        refine c_mwri hD hY hi ?_
        refine pv_then0 ?_
        refine pv_iconst (pc := 82) (v := 1) (by decide) (fm_dec dtX11_does 39 rfl) ?_
        exact pv_zreturn (pc := 83) rfl (by first | exact Or.inr rfl | exact Or.inl rfl) (fm_dec dtX11_does 40 rfl) (hq _ _ (by have hm : S.2 i = -1 := hno.mp h43; show (if S.2 i = -1 then puS D S i else none) = _; rw [if_pos hm]; exact if_neg (by intro h8; rcases h8 with h8 | h8 | h8; exact h35a h8; exact h35b h8; rw [sc_le] at hc71; omega)) (wr_st hD hY hs ho hi (by rw [sc_le] at hc71; omega)) ((mFr.refl M).put.put))
      · refine pv_iconst (pc := 74) (v := 0) (by decide) (fm_dec dtX11_does 33 rfl) ?_
        exact pv_zreturn (pc := 75) rfl (by first | exact Or.inr rfl | exact Or.inl rfl) (fm_dec dtX11_does 34 rfl) (hn (by have hm : S.2 i = -1 := hno.mp h43; show (if S.2 i = -1 then puS D S i else none) = _; rw [if_pos hm]; exact if_pos (Or.inr (Or.inr (by rw [sc_le] at hc71; omega)))))
  · refine pv_then1 ?_
    refine pv_if_eq (pc := 38) 74 (by decide) (fm_dec dtX11_does 12 rfl) (fun _ => ?_) (fun hc38 => by exfalso; revert hc38; decide)
    refine pv_iconst (pc := 74) (v := 0) (by decide) (fm_dec dtX11_does 33 rfl) ?_
    exact pv_zreturn (pc := 75) rfl (by first | exact Or.inr rfl | exact Or.inl rfl) (fm_dec dtX11_does 34 rfl) (hn (by show (if S.2 i = -1 then puS D S i else none) = _; by_cases hm : S.2 i = -1; (rw [if_pos hm]; exact if_pos (by rcases h35 with h | h; exact Or.inl h; exact Or.inr (Or.inl h))); (rw [if_neg hm])))
set_option maxRecDepth 20000 in
theorem c_mds1 {M : fmM} {Q : fmR → fmM → Prop} {D : dD} {cs : tC} {S : aS} {b i : Nat} (hD : dOk D) (hY : mdw M D) (hL : lwM M cs) (hd : cs = [] ∨ dpB 23 0 cs = some 1) (hs : mst M D S) (ho : stO D S) (hb : b < 80) (hk : M.1 (423 + b) 0 = nI 1) (hi1 : (M.1 (423 + b) 1).toInt = (i : Int)) (hi : i < D.1) (hn : doS D cs S 1 i = none → Q (.inl (some (.int 0))) M) (hq : ∀ (M' : fmM) (S' : aS), doS D cs S 1 i = some S' → mst M' D S' → mFr M M' → Q (.inl (some (.int 1))) M') : pvGood Tm 9 qX11_does [.ref 0, .ref 7, .ref (423 + b)] M Q := by
  refine pvGood_of (Nat.le_of_ble_eq_true rfl) ?_
  show pvEv Tm 9 qX11_does 0 [some (.ref 0), some (.ref 7), some (.ref (423 + b)), none] [] M Q
  have d8 := hD.1
  have hi9 : (nI i).toInt = (i : Int) := nI_toInt (by omega)
  have hi8 : i < 8 := (by omega)
  have ei : M.1 (423 + b) (Int32.toNatClampNeg 1) = nI i := nI_is hi1 (by have := hD.1; omega)
  have e0 : M.1 7 (Int32.toNatClampNeg 0) = nI S.1.2.2.1 := nI_is hs.1 (by have := ho.2.2.1; omega)
  have hno := hs.no ho hi
  have h12 := ho.2.1
  have hh := hrV_n hD hY hs ho hi
  have g9 : (M.1 7 (Int32.toNatClampNeg 9)).toInt = (S.1.2.1 : Int) := hs.2.2.1
  have hk9 : M.1 (423 + b) (Int32.toNatClampNeg 0) = nI 1 := hk
  refine pv_aloadn (pc := 0) (n := 2) 2 rfl rfl (fm_dec dtX11_does 0 rfl) ?_
  refine pv_iconst (pc := 1) (v := 1) (by decide) (fm_dec dtX11_does 1 rfl) ?_
  refine pv_iald (k := (423 + b)) (n := 3) (pc := 2) (rw_step.2.2.2 _ hb).2.2.1 (rw_step.2.2.2 _ hb).2.2.2.1 (rw_step.2.2.2 _ hb).2.2.2.2 (fm_inl (by decide)) (fm_dec dtX11_does 2 rfl) ?_
  refine pv_istoren (pc := 3) (n := 3) 3 rfl (by decide) rfl (fm_dec dtX11_does 3 rfl) ?_
  dsimp only [List.set_cons_zero, List.set_cons_succ]
  rw [ei]
  refine pv_aloadn (pc := 4) (n := 2) 2 rfl rfl (fm_dec dtX11_does 4 rfl) ?_
  refine pv_iconst (pc := 5) (v := 0) (by decide) (fm_dec dtX11_does 5 rfl) ?_
  refine pv_iald (k := (423 + b)) (n := 3) (pc := 6) (rw_step.2.2.2 _ hb).2.2.1 (rw_step.2.2.2 _ hb).2.2.2.1 (rw_step.2.2.2 _ hb).2.2.2.2 (fm_inl (by decide)) (fm_dec dtX11_does 6 rfl) ?_
  refine pv_table (pc := 7) 32 (by decide) (by have h9 : M.1 (423 + b) (Int32.toNatClampNeg 0) = nI 1 := hk; rw [h9]; decide) (fm_dec dtX11_does 7 rfl) ?_
  refine pv_aloadn (pc := 32) (n := 0) 0 rfl rfl (fm_dec dtX11_does 8 rfl) ?_
  refine pv_aloadn (pc := 33) (n := 1) 1 rfl rfl (fm_dec dtX11_does 9 rfl) ?_
  refine pv_iloadn (pc := 34) (n := 3) 3 rfl rfl (fm_dec dtX11_does 10 rfl) ?_
  refine pv_invV2 (k := 0) (d' := 1) (pc := 35) pcv_X11_296 (by decide) rfl (Nat.le_of_ble_eq_true rfl) (by decide) (fm_dec dtX11_does 11 rfl) ?_
  refine c_mmay hD hs ho hi (fun h35a h35b => ?_) (fun h35 => ?_)
  · refine pv_then1 ?_
    refine pv_if_eq (pc := 38) 74 (by decide) (fm_dec dtX11_does 12 rfl) (fun hc38 => by exfalso; revert hc38; decide) (fun _ => ?_)
    refine pv_aloadn (pc := 41) (n := 1) 1 rfl rfl (fm_dec dtX11_does 13 rfl) ?_
    refine pv_iloadn (pc := 42) (n := 3) 3 rfl rfl (fm_dec dtX11_does 14 rfl) ?_
    refine pv_iS2 (d' := 0) (pc := 43) pcs_X11_283 (Nat.le_of_ble_eq_true rfl) (by decide) (fm_dec dtX11_does 15 rfl) ?_
    refine c_hasPiece7 hi9 hi8 (fun h43 => ?_) (fun h43 => ?_)
    · refine pv_then1 ?_
      refine pv_aloadn (pc := 46) (n := 2) 2 rfl rfl (fm_dec dtX11_does 16 rfl) ?_
      refine pv_iconst (pc := 47) (v := 0) (by decide) (fm_dec dtX11_does 17 rfl) ?_
      refine pv_iald (k := (423 + b)) (n := 3) (pc := 48) (rw_step.2.2.2 _ hb).2.2.1 (rw_step.2.2.2 _ hb).2.2.2.1 (rw_step.2.2.2 _ hb).2.2.2.2 (fm_inl (by decide)) (fm_dec dtX11_does 18 rfl) ?_
      refine pv_iconst (pc := 49) (v := 1) (by decide) (fm_dec dtX11_does 19 rfl) ?_
      refine pv_icmp_ne (pc := 50) 57 (by decide) (fm_dec dtX11_does 20 rfl) (fun hc50 => by exfalso; apply hc50; rw [hk9]; decide) (fun _ => ?_)
      refine pv_iconst (pc := 53) (v := 1) (by decide) (fm_dec dtX11_does 21 rfl) ?_
      refine pv_goto (pc := 54) 58 (by decide) (fm_dec dtX11_does 22 rfl) ?_
      refine pv_icmp_ne (pc := 58) 74 (by decide) (fm_dec dtX11_does 24 rfl) (fun hc58 => by exfalso; revert hc58; decide) (fun _ => ?_)
      refine pv_aloadn (pc := 61) (n := 0) 0 rfl rfl (fm_dec dtX11_does 25 rfl) ?_
      refine pv_aloadn (pc := 62) (n := 1) 1 rfl rfl (fm_dec dtX11_does 26 rfl) ?_
      refine pv_iloadn (pc := 63) (n := 3) 3 rfl rfl (fm_dec dtX11_does 27 rfl) ?_
      refine pv_invV2 (k := 0) (d' := 2) (pc := 64) pcv_X11_290 (by decide) rfl (Nat.le_of_ble_eq_true rfl) (by decide) (fm_dec dtX11_does 28 rfl) ?_
      refine c_hours7 hi9 hi8 (h5_ne hD hY) ?_
      refine pv_then1 ?_
      refine pv_aloadn (pc := 67) (n := 1) 1 rfl rfl (fm_dec dtX11_does 29 rfl) ?_
      refine pv_bipush (pc := 68) (v := 9) (by decide) (fm_dec dtX11_does 30 rfl) ?_
      refine pv_iald (k := 7) (n := 14) (pc := 70) (by decide) rfl rfl (fm_inl (by decide)) (fm_dec dtX11_does 31 rfl) ?_
      refine pv_icmp_le (pc := 71) 76 (by decide) (fm_dec dtX11_does 32 rfl) (fun hc71 => ?_) (fun hc71 => ?_)
      · refine pv_aloadn (pc := 76) (n := 0) 0 rfl rfl (fm_dec dtX11_does 35 rfl) ?_
        refine pv_aloadn (pc := 77) (n := 1) 1 rfl rfl (fm_dec dtX11_does 36 rfl) ?_
        refine pv_iloadn (pc := 78) (n := 3) 3 rfl rfl (fm_dec dtX11_does 37 rfl) ?_
        refine pv_invV2 (k := 0) (d' := 3) (pc := 79) pcv_X11_299 (by decide) rfl (Nat.le_of_ble_eq_true rfl) (by decide) (fm_dec dtX11_does 38 rfl) ?_
        refine c_mwri hD hY hi ?_
        refine pv_then0 ?_
        refine pv_iconst (pc := 82) (v := 1) (by decide) (fm_dec dtX11_does 39 rfl) ?_
        exact pv_zreturn (pc := 83) rfl (by first | exact Or.inr rfl | exact Or.inl rfl) (fm_dec dtX11_does 40 rfl) (hq _ _ (by have hm : ¬ S.2 i = -1 := (fun h8 => h43 (hno.mpr h8)); show (if S.2 i = -1 then none else puS D S i) = _; rw [if_neg hm]; exact if_neg (by intro h8; rcases h8 with h8 | h8 | h8; exact h35a h8; exact h35b h8; rw [sc_le] at hc71; omega)) (wr_st hD hY hs ho hi (by rw [sc_le] at hc71; omega)) ((mFr.refl M).put.put))
      · refine pv_iconst (pc := 74) (v := 0) (by decide) (fm_dec dtX11_does 33 rfl) ?_
        exact pv_zreturn (pc := 75) rfl (by first | exact Or.inr rfl | exact Or.inl rfl) (fm_dec dtX11_does 34 rfl) (hn (by have hm : ¬ S.2 i = -1 := (fun h8 => h43 (hno.mpr h8)); show (if S.2 i = -1 then none else puS D S i) = _; rw [if_neg hm]; exact if_pos (Or.inr (Or.inr (by rw [sc_le] at hc71; omega)))))
    · refine pv_then1 ?_
      refine pv_aloadn (pc := 46) (n := 2) 2 rfl rfl (fm_dec dtX11_does 16 rfl) ?_
      refine pv_iconst (pc := 47) (v := 0) (by decide) (fm_dec dtX11_does 17 rfl) ?_
      refine pv_iald (k := (423 + b)) (n := 3) (pc := 48) (rw_step.2.2.2 _ hb).2.2.1 (rw_step.2.2.2 _ hb).2.2.2.1 (rw_step.2.2.2 _ hb).2.2.2.2 (fm_inl (by decide)) (fm_dec dtX11_does 18 rfl) ?_
      refine pv_iconst (pc := 49) (v := 1) (by decide) (fm_dec dtX11_does 19 rfl) ?_
      refine pv_icmp_ne (pc := 50) 57 (by decide) (fm_dec dtX11_does 20 rfl) (fun hc50 => by exfalso; apply hc50; rw [hk9]; decide) (fun _ => ?_)
      refine pv_iconst (pc := 53) (v := 1) (by decide) (fm_dec dtX11_does 21 rfl) ?_
      refine pv_goto (pc := 54) 58 (by decide) (fm_dec dtX11_does 22 rfl) ?_
      refine pv_icmp_ne (pc := 58) 74 (by decide) (fm_dec dtX11_does 24 rfl) (fun _ => ?_) (fun hc58 => by exfalso; revert hc58; decide)
      refine pv_iconst (pc := 74) (v := 0) (by decide) (fm_dec dtX11_does 33 rfl) ?_
      exact pv_zreturn (pc := 75) rfl (by first | exact Or.inr rfl | exact Or.inl rfl) (fm_dec dtX11_does 34 rfl) (hn (by have hm : S.2 i = -1 := hno.mp h43; show (if S.2 i = -1 then none else puS D S i) = _; rw [if_pos hm]))
  · refine pv_then1 ?_
    refine pv_if_eq (pc := 38) 74 (by decide) (fm_dec dtX11_does 12 rfl) (fun _ => ?_) (fun hc38 => by exfalso; revert hc38; decide)
    refine pv_iconst (pc := 74) (v := 0) (by decide) (fm_dec dtX11_does 33 rfl) ?_
    exact pv_zreturn (pc := 75) rfl (by first | exact Or.inr rfl | exact Or.inl rfl) (fm_dec dtX11_does 34 rfl) (hn (by show (if S.2 i = -1 then none else puS D S i) = _; by_cases hm : S.2 i = -1; (rw [if_pos hm]); (rw [if_neg hm]; exact if_pos (by rcases h35 with h | h; exact Or.inl h; exact Or.inr (Or.inl h)))))
set_option maxRecDepth 20000 in
theorem c_mds2 {M : fmM} {Q : fmR → fmM → Prop} {D : dD} {cs : tC} {S : aS} {b i : Nat} (hD : dOk D) (hY : mdw M D) (hL : lwM M cs) (hd : cs = [] ∨ dpB 23 0 cs = some 1) (hs : mst M D S) (ho : stO D S) (hb : b < 80) (hk : M.1 (423 + b) 0 = nI 2) (hi1 : (M.1 (423 + b) 1).toInt = (i : Int)) (hi : i < D.1) (hn : doS D cs S 2 i = none → Q (.inl (some (.int 0))) M) (hq : ∀ (M' : fmM) (S' : aS), doS D cs S 2 i = some S' → mst M' D S' → mFr M M' → Q (.inl (some (.int 1))) M') : pvGood Tm 9 qX11_does [.ref 0, .ref 7, .ref (423 + b)] M Q := by
  refine pvGood_of (Nat.le_of_ble_eq_true rfl) ?_
  show pvEv Tm 9 qX11_does 0 [some (.ref 0), some (.ref 7), some (.ref (423 + b)), none] [] M Q
  have d8 := hD.1
  have hi9 : (nI i).toInt = (i : Int) := nI_toInt (by omega)
  have hi8 : i < 8 := (by omega)
  have ei : M.1 (423 + b) (Int32.toNatClampNeg 1) = nI i := nI_is hi1 (by have := hD.1; omega)
  have e0 : M.1 7 (Int32.toNatClampNeg 0) = nI S.1.2.2.1 := nI_is hs.1 (by have := ho.2.2.1; omega)
  refine pv_aloadn (pc := 0) (n := 2) 2 rfl rfl (fm_dec dtX11_does 0 rfl) ?_
  refine pv_iconst (pc := 1) (v := 1) (by decide) (fm_dec dtX11_does 1 rfl) ?_
  refine pv_iald (k := (423 + b)) (n := 3) (pc := 2) (rw_step.2.2.2 _ hb).2.2.1 (rw_step.2.2.2 _ hb).2.2.2.1 (rw_step.2.2.2 _ hb).2.2.2.2 (fm_inl (by decide)) (fm_dec dtX11_does 2 rfl) ?_
  refine pv_istoren (pc := 3) (n := 3) 3 rfl (by decide) rfl (fm_dec dtX11_does 3 rfl) ?_
  dsimp only [List.set_cons_zero, List.set_cons_succ]
  rw [ei]
  refine pv_aloadn (pc := 4) (n := 2) 2 rfl rfl (fm_dec dtX11_does 4 rfl) ?_
  refine pv_iconst (pc := 5) (v := 0) (by decide) (fm_dec dtX11_does 5 rfl) ?_
  refine pv_iald (k := (423 + b)) (n := 3) (pc := 6) (rw_step.2.2.2 _ hb).2.2.1 (rw_step.2.2.2 _ hb).2.2.2.1 (rw_step.2.2.2 _ hb).2.2.2.2 (fm_inl (by decide)) (fm_dec dtX11_does 6 rfl) ?_
  refine pv_table (pc := 7) 84 (by decide) (by have h9 : M.1 (423 + b) (Int32.toNatClampNeg 0) = nI 2 := hk; rw [h9]; decide) (fm_dec dtX11_does 7 rfl) ?_
  refine pv_aloadn (pc := 84) (n := 1) 1 rfl rfl (fm_dec dtX11_does 41 rfl) ?_
  refine pv_iconst (pc := 85) (v := 0) (by decide) (fm_dec dtX11_does 42 rfl) ?_
  refine pv_iald (k := 7) (n := 14) (pc := 86) (by decide) rfl rfl (fm_inl (by decide)) (fm_dec dtX11_does 43 rfl) ?_
  refine pv_iloadn (pc := 87) (n := 3) 3 rfl rfl (fm_dec dtX11_does 44 rfl) ?_
  refine pv_iS2 (d' := 0) (pc := 88) pcs_X11_256 (Nat.le_of_ble_eq_true rfl) (by decide) (fm_dec dtX11_does 45 rfl) ?_
  refine c_has (fun h88 => ?_) (fun h88 => ?_)
  · refine pv_then1 ?_
    refine pv_if_eq (pc := 91) 96 (by decide) (fm_dec dtX11_does 46 rfl) (fun hc91 => by exfalso; revert hc91; decide) (fun _ => ?_)
    refine pv_iconst (pc := 94) (v := 0) (by decide) (fm_dec dtX11_does 47 rfl) ?_
    exact pv_zreturn (pc := 95) rfl (by first | exact Or.inr rfl | exact Or.inl rfl) (fm_dec dtX11_does 48 rfl) (hn (if_pos ((has8 _ ho.2.2.1 i hi8).mp (by rw [← e0]; exact h88))))
  · refine pv_then1 ?_
    refine pv_if_eq (pc := 91) 96 (by decide) (fm_dec dtX11_does 46 rfl) (fun _ => ?_) (fun hc91 => by exfalso; revert hc91; decide)
    refine pv_aloadn (pc := 96) (n := 0) 0 rfl rfl (fm_dec dtX11_does 49 rfl) ?_
    refine pv_aloadn (pc := 97) (n := 1) 1 rfl rfl (fm_dec dtX11_does 50 rfl) ?_
    refine pv_iloadn (pc := 98) (n := 3) 3 rfl rfl (fm_dec dtX11_does 51 rfl) ?_
    refine pv_invV2 (k := 0) (d' := 8) (pc := 99) pcv_X11_303 (by decide) rfl (Nat.le_of_ble_eq_true rfl) (by decide) (fm_dec dtX11_does 52 rfl) ?_
    refine c_mdie hD hY hL hd hs ho hi (Bool.eq_false_iff.mpr (fun h8 => h88 (by rw [e0]; exact (has8 _ ho.2.2.1 i hi8).mpr h8))) (fun M99 S99 e99 x99 f99 => ?_)
    refine pv_then0 ?_
    refine pv_iconst (pc := 102) (v := 1) (by decide) (fm_dec dtX11_does 53 rfl) ?_
    exact pv_zreturn (pc := 103) rfl (by first | exact Or.inr rfl | exact Or.inl rfl) (fm_dec dtX11_does 54 rfl) (hq M99 S99 e99 x99 f99)
set_option maxRecDepth 20000 in
theorem c_mds3 {M : fmM} {Q : fmR → fmM → Prop} {D : dD} {cs : tC} {S : aS} {b i : Nat} (hD : dOk D) (hY : mdw M D) (hL : lwM M cs) (hd : cs = [] ∨ dpB 23 0 cs = some 1) (hs : mst M D S) (ho : stO D S) (hb : b < 80) (hk : M.1 (423 + b) 0 = nI 3) (hn : doS D cs S 3 i = none → Q (.inl (some (.int 0))) M) (hq : ∀ (M' : fmM) (S' : aS), doS D cs S 3 i = some S' → mst M' D S' → mFr M M' → Q (.inl (some (.int 1))) M') : pvGood Tm 9 qX11_does [.ref 0, .ref 7, .ref (423 + b)] M Q := by
  refine pvGood_of (Nat.le_of_ble_eq_true rfl) ?_
  show pvEv Tm 9 qX11_does 0 [some (.ref 0), some (.ref 7), some (.ref (423 + b)), none] [] M Q
  refine pv_aloadn (pc := 0) (n := 2) 2 rfl rfl (fm_dec dtX11_does 0 rfl) ?_
  refine pv_iconst (pc := 1) (v := 1) (by decide) (fm_dec dtX11_does 1 rfl) ?_
  refine pv_iald (k := (423 + b)) (n := 3) (pc := 2) (rw_step.2.2.2 _ hb).2.2.1 (rw_step.2.2.2 _ hb).2.2.2.1 (rw_step.2.2.2 _ hb).2.2.2.2 (fm_inl (by decide)) (fm_dec dtX11_does 2 rfl) ?_
  refine pv_istoren (pc := 3) (n := 3) 3 rfl (by decide) rfl (fm_dec dtX11_does 3 rfl) ?_
  dsimp only [List.set_cons_zero, List.set_cons_succ]
  refine pv_aloadn (pc := 4) (n := 2) 2 rfl rfl (fm_dec dtX11_does 4 rfl) ?_
  refine pv_iconst (pc := 5) (v := 0) (by decide) (fm_dec dtX11_does 5 rfl) ?_
  refine pv_iald (k := (423 + b)) (n := 3) (pc := 6) (rw_step.2.2.2 _ hb).2.2.1 (rw_step.2.2.2 _ hb).2.2.2.1 (rw_step.2.2.2 _ hb).2.2.2.2 (fm_inl (by decide)) (fm_dec dtX11_does 6 rfl) ?_
  refine pv_table (pc := 7) 104 (by decide) (by have h9 : M.1 (423 + b) (Int32.toNatClampNeg 0) = nI 3 := hk; rw [h9]; decide) (fm_dec dtX11_does 7 rfl) ?_
  refine pv_aloadn (pc := 104) (n := 0) 0 rfl rfl (fm_dec dtX11_does 55 rfl) ?_
  refine pv_aloadn (pc := 105) (n := 1) 1 rfl rfl (fm_dec dtX11_does 56 rfl) ?_
  refine pv_invV1 (k := 0) (d' := 0) (pc := 106) pcv_X11_306 (by decide) rfl (Nat.le_of_ble_eq_true rfl) (by decide) (fm_dec dtX11_does 57 rfl) ?_
  refine c_mweek hD hY hs ho (fun h106 => ?_) (fun M9 S9 h106 x9 f9 => ?_)
  · refine pv_then1 ?_
    exact pv_zreturn (pc := 109) rfl (by first | exact Or.inr rfl | exact Or.inl rfl) (fm_dec dtX11_does 58 rfl) (hn h106)
  · refine pv_then1 ?_
    exact pv_zreturn (pc := 109) rfl (by first | exact Or.inr rfl | exact Or.inl rfl) (fm_dec dtX11_does 58 rfl) (hq M9 S9 h106 x9 f9)
end
-- P 18yb
section
def mAll (M : fmM) (D : dD) (cs : tC) (R : gR) : Prop := mdw M D ∧ lwM M cs ∧ (cs = [] ∨ dpB 23 0 cs = some 1) ∧ mst M D R.1 ∧ stO D R.1 ∧ (M.1 0 36).toInt = (R.2.1 : Int) ∧ (M.1 0 37).toInt = (R.2.2.1 : Int) ∧ (M.1 0 33).toInt = (R.2.2.2 : Int) ∧ R.2.2.1 + R.2.2.2 ≤ R.2.1 ∧ R.2.1 ≤ 200
def nFr (M M' : fmM) : Prop := (∀ k j, k ≠ 0 → k ≠ 5 → k ≠ 6 → k ≠ 7 → M'.1 k j = M.1 k j) ∧ (∀ j, j ≠ 33 → j ≠ 36 → j ≠ 37 → M'.1 0 j = M.1 0 j) ∧ M'.2 = M.2
theorem nFr.refl (M : fmM) : nFr M M := ⟨fun _ _ _ _ _ _ => rfl, fun _ _ _ _ => rfl, rfl⟩
theorem nFr.trans {M M1 M2 : fmM} (h : nFr M M1) (h' : nFr M1 M2) : nFr M M2 := ⟨fun k j a b c d => (h'.1 k j a b c d).trans (h.1 k j a b c d), fun j a b c => (h'.2.1 j a b c).trans (h.2.1 j a b c), h'.2.2.trans h.2.2⟩
theorem nFr.put {M M1 : fmM} {j : Nat} {x : Int32} (h : nFr M M1) (hj : j = 33 ∨ j = 36 ∨ j = 37) : nFr M (fmI M1 0 j x) := ⟨fun k' j' a b c d => by rw [fmI_k _ _ a]; exact h.1 k' j' a b c d, fun j' a b c => by rw [fmI_j _ _ (by omega)]; exact h.2.1 j' a b c, h.2.2⟩
theorem mFr.n {M M1 : fmM} (h : mFr M M1) : nFr M M1 := ⟨fun k j a b c d => h.1 k j b c d, fun j _ _ _ => h.1 0 j (by decide) (by decide) (by decide), h.2⟩
theorem stRep.n {M M' : fmM} {ss : tS} (h : stRep M 0 ss) (hf : nFr M M') : stRep M' 0 ss := fun i c hi => by
  rw [hf.1 _ _ (by omega) (by omega) (by omega) (by omega), hf.1 _ _ (by omega) (by omega) (by omega) (by omega), hf.1 _ _ (by omega) (by omega) (by omega) (by omega)]
  exact h i c hi
theorem lwM.f {M M' : fmM} {cs : tC} (h : lwM M cs) (e : M'.1 0 17 = M.1 0 17) (e2 : ∀ k j, 91 ≤ k → M'.1 k j = M.1 k j) : lwM M' cs := ⟨by rw [e]; exact h.1, h.2.1, h.2.2.1, fun i c hi => by rw [e2 _ _ (by omega), e2 _ _ (by omega)]; exact h.2.2.2 i c hi⟩
theorem mAll.put {M : fmM} {D : dD} {cs : tC} {R : gR} {j : Nat} {x : Int32} (hD : dOk D) (h : mAll M D cs R) (hj : j = 33 ∨ j = 36 ∨ j = 37) : mdw (fmI M 0 j x) D ∧ lwM (fmI M 0 j x) cs ∧ mst (fmI M 0 j x) D R.1 := ⟨h.1.k hD (fun k j' a => by rw [fmI_k _ _ (by omega)]), h.2.1.f (by rw [fmI_j _ _ (by omega)]) (fun k j' a => by rw [fmI_k _ _ (by omega)]), h.2.2.2.1.of (fun j' => by rw [fmI_k _ _ (by decide)])⟩
/-- one step, whatever its kind -/
theorem c_mds {M : fmM} {Q : fmR → fmM → Prop} {D : dD} {cs : tC} {S : aS} {b k i : Nat} (hD : dOk D) (hY : mdw M D) (hL : lwM M cs) (hd : cs = [] ∨ dpB 23 0 cs = some 1) (hs : mst M D S) (ho : stO D S) (hb : b < 80) (hk : (M.1 (423 + b) 0).toInt = (k : Int)) (hk4 : k < 4) (hi1 : k ≠ 3 → (M.1 (423 + b) 1).toInt = (i : Int)) (hi : k < 3 → i < D.1) (hn : doS D cs S k i = none → Q (.inl (some (.int 0))) M) (hq : ∀ (M' : fmM) (S' : aS), doS D cs S k i = some S' → mst M' D S' → mFr M M' → Q (.inl (some (.int 1))) M') : pvGood Tm 9 qX11_does [.ref 0, .ref 7, .ref (423 + b)] M Q := by
  have hx : M.1 (423 + b) 0 = nI k := nI_is hk (by omega)
  match k, hk4, hx, hi1, hi, hn, hq with
  | 0, _, hx, hi1, hi, hn, hq => exact c_mds0 hD hY hL hd hs ho hb hx (hi1 (by decide)) (hi (by decide)) hn hq
  | 1, _, hx, hi1, hi, hn, hq => exact c_mds1 hD hY hL hd hs ho hb hx (hi1 (by decide)) (hi (by decide)) hn hq
  | 2, _, hx, hi1, hi, hn, hq => exact c_mds2 hD hY hL hd hs ho hb hx (hi1 (by decide)) (hi (by decide)) hn hq
  | 3, _, hx, hi1, hi, hn, hq => exact c_mds3 hD hY hL hd hs ho hb hx hn hq
  | k + 4, h, _, _, _, _, _ => omega
def mgL (D : dD) (cs : tC) (ss : tS) (f : Nat) : Prop := ∀ (M : fmM) (Q : fmR → fmM → Prop) (a g d : Nat) (l : tS) (R : gR) (fr to sx : Int32) (v4 : Option Value), mAll M D cs R → stRep M 0 ss → seg ss a l → a + l.length ≤ ss.length → wnL g d a l → sx.toInt = (a : Int) → to.toInt = ((a + l.length : Nat) : Int) → 200 - R.2.1 < f → (∀ M' : fmM, mAll M' D cs (goL D cs f a l R) → nFr M M' → Q (.inl none) M') → pvEv Tm (12 + f) qX11_goes 2 [some (.ref 0), some (.int fr), some (.int to), some (.int sx), v4] [] M Q
theorem mgL.go {D : dD} {cs : tC} {ss : tS} {f : Nat} (h : mgL D cs ss f) {M : fmM} {Q : fmR → fmM → Prop} {a g d : Nat} {l : tS} {R : gR} {to fr : Int32} (h1 : mAll M D cs R) (h2 : stRep M 0 ss) (h3 : seg ss a l) (h4 : a + l.length ≤ ss.length) (h5 : wnL g d a l) (h7 : fr.toInt = (a : Int)) (h8 : to.toInt = ((a + l.length : Nat) : Int)) (h10 : 200 - R.2.1 < f) (hq : ∀ M' : fmM, mAll M' D cs (goL D cs f a l R) → nFr M M' → Q (.inl none) M') : pvGood Tm (12 + f) qX11_goes [.ref 0, .int fr, .int to] M Q := by
  refine pvGood_of (Nat.le_of_ble_eq_true rfl) ?_
  show pvEv Tm (12 + f) qX11_goes 0 [some (.ref 0), some (.int fr), some (.int to), none, none] [] M Q
  refine pv_iloadn (pc := 0) (n := 1) 1 rfl rfl (fm_dec dtX11_goes 0 rfl) ?_
  refine pv_istoren (pc := 1) (n := 3) 3 rfl (by decide) rfl (fm_dec dtX11_goes 1 rfl) ?_
  dsimp only [List.set_cons_zero, List.set_cons_succ]
  exact h M Q a g d l R fr to fr none h1 h2 h3 h4 h5 h7 h8 h10 hq
set_option maxRecDepth 20000 in
theorem mge_in {Q : fmR → fmM → Prop} {D : dD} {cs : tC} {ss : tS} {f : Nat} (h : mgL D cs ss f) {a g9 d9 v e : Nat} {s : Nat × Nat × Nat} {r : tS} {fr to sx : Int32} (hsa : ss[a]? = some s) (hs2 : s.2.1 = v) (hs3 : s.2.2 = e) (h4s : s.1 = 4) (hv20 : v ≤ 20) (hseg : seg ss (a + 1) r) (hlen : a + 1 + r.length ≤ ss.length) (hae : a + 1 ≤ e) (her : e ≤ a + 1 + r.length) (hwn : wnL g9 d9 (a + 1) (r.take (e - (a + 1)))) (ha : sx.toInt = (a : Int)) (ha80 : a < 80) : ∀ (q : Nat) (M : fmM) (R : gR) (c : Nat) (cc : Int32), mAll M D cs R → stRep M 0 ss → 200 - R.2.1 < f → cc.toInt = (c : Int) → c + q = v → (∀ (M' : fmM) (v4 : Option Value), mAll M' D cs (loR (goL D cs f (a + 1) (r.take (e - (a + 1)))) q R) → nFr M M' → pvEv Tm (12 + (f + 1)) qX11_goes 143 [some (.ref 0), some (.int fr), some (.int to), some (.int sx), v4] [] M' Q) → pvEv Tm (12 + (f + 1)) qX11_goes 42 [some (.ref 0), some (.int fr), some (.int to), some (.int sx), some (.int cc)] [] M Q := by
  intro q
  induction q with
  | zero =>
    intro M R c cc hA hW hg hc hcq hq
    have hrow := hW a s hsa
    rw [show 423 + 0 + a = 423 + a by omega] at hrow
    have hv9 : (M.1 (423 + a) (Int32.toNatClampNeg 1)).toInt = (v : Int) := (hrow.2.1 (by rw [h4s]; decide)).trans (by rw [hs2])
    have he9 : (M.1 (423 + a) (Int32.toNatClampNeg 2)).toInt = (e : Int) := hrow.2.2.trans (by rw [hs3])
    refine pv_iload (pc := 42) (i := 4) rfl (fm_dec dtX11_goes 25 rfl) ?_
    refine pv_aloadn (pc := 44) (n := 0) 0 rfl rfl (fm_dec dtX11_goes 26 rfl) ?_
    refine pv_getR (k := 0) (j := 25) (ci := 11) (pc := 45) 24 rfl (by decide) pfl_X11_58 (by decide) rfl (by decide) (fm_dec dtX11_goes 27 rfl) ?_
    refine pv_iloadn (pc := 48) (n := 3) 3 rfl rfl (fm_dec dtX11_goes 28 rfl) ?_
    refine pv_aald (k := 24) (n := 80) (r := (423 + a)) (pc := 49) (by decide) (Or.inr (Or.inr rfl)) rfl (rw_step.inb ha ha80) (rw_step.at ha ha80) (rw_step.2.2.2 _ ha80).2.1 (fm_dec dtX11_goes 29 rfl) ?_
    refine pv_iconst (pc := 50) (v := 1) (by decide) (fm_dec dtX11_goes 30 rfl) ?_
    refine pv_iald (k := (423 + a)) (n := 3) (pc := 51) (rw_step.2.2.2 _ ha80).2.2.1 (rw_step.2.2.2 _ ha80).2.2.2.1 (rw_step.2.2.2 _ ha80).2.2.2.2 (fm_inl (by decide)) (fm_dec dtX11_goes 31 rfl) ?_
    refine pv_icmp_ge (pc := 52) 86 (by decide) (fm_dec dtX11_goes 32 rfl) (fun _ => ?_) (fun hc52 => by exfalso; apply hc52; rw [sc_le]; omega)
    refine pv_goto (pc := 86) 143 (by decide) (fm_dec dtX11_goes 50 rfl) ?_
    exact hq M _ hA (nFr.refl M)
  | succ q ih =>
    intro M R c cc hA hW hg hc hcq hq
    have hrow := hW a s hsa
    rw [show 423 + 0 + a = 423 + a by omega] at hrow
    have hv9 : (M.1 (423 + a) (Int32.toNatClampNeg 1)).toInt = (v : Int) := (hrow.2.1 (by rw [h4s]; decide)).trans (by rw [hs2])
    have he9 : (M.1 (423 + a) (Int32.toNatClampNeg 2)).toInt = (e : Int) := hrow.2.2.trans (by rw [hs3])
    refine pv_iload (pc := 42) (i := 4) rfl (fm_dec dtX11_goes 25 rfl) ?_
    refine pv_aloadn (pc := 44) (n := 0) 0 rfl rfl (fm_dec dtX11_goes 26 rfl) ?_
    refine pv_getR (k := 0) (j := 25) (ci := 11) (pc := 45) 24 rfl (by decide) pfl_X11_58 (by decide) rfl (by decide) (fm_dec dtX11_goes 27 rfl) ?_
    refine pv_iloadn (pc := 48) (n := 3) 3 rfl rfl (fm_dec dtX11_goes 28 rfl) ?_
    refine pv_aald (k := 24) (n := 80) (r := (423 + a)) (pc := 49) (by decide) (Or.inr (Or.inr rfl)) rfl (rw_step.inb ha ha80) (rw_step.at ha ha80) (rw_step.2.2.2 _ ha80).2.1 (fm_dec dtX11_goes 29 rfl) ?_
    refine pv_iconst (pc := 50) (v := 1) (by decide) (fm_dec dtX11_goes 30 rfl) ?_
    refine pv_iald (k := (423 + a)) (n := 3) (pc := 51) (rw_step.2.2.2 _ ha80).2.2.1 (rw_step.2.2.2 _ ha80).2.2.2.1 (rw_step.2.2.2 _ ha80).2.2.2.2 (fm_inl (by decide)) (fm_dec dtX11_goes 31 rfl) ?_
    refine pv_icmp_ge (pc := 52) 86 (by decide) (fm_dec dtX11_goes 32 rfl) (fun hc52 => by exfalso; rw [sc_le] at hc52; omega) (fun _ => ?_)
    refine pv_aloadn (pc := 55) (n := 0) 0 rfl rfl (fm_dec dtX11_goes 33 rfl) ?_
    refine pv_getI (k := 0) (j := 36) (ci := 11) (pc := 56) pfl_X11_310 (by decide) rfl (by decide) (fm_dec dtX11_goes 34 rfl) ?_
    refine pv_sipush (pc := 59) (v := 200) (by decide) (fm_dec dtX11_goes 35 rfl) ?_
    refine pv_icmp_ge (pc := 62) 86 (by decide) (fm_dec dtX11_goes 36 rfl) (fun hc62 => ?_) (fun hc62 => ?_)
    · refine pv_goto (pc := 86) 143 (by decide) (fm_dec dtX11_goes 50 rfl) ?_
      have eL : loR (goL D cs f (a + 1) (r.take (e - (a + 1)))) (q + 1) R = R := if_neg (by rw [sc_le] at hc62; have z200 : (200 : Int32).toInt = 200 := (by decide); have h9 := hA.2.2.2.2.2.1; omega)
      rw [eL] at hq
      exact hq M _ hA (nFr.refl M)
    · have hg2 : R.2.1 < 200 := (by rw [sc_le] at hc62; have z200 : (200 : Int32).toInt = 200 := (by decide); have h9 := hA.2.2.2.2.2.1; omega)
      have eL : loR (goL D cs f (a + 1) (r.take (e - (a + 1)))) (q + 1) R = loR (goL D cs f (a + 1) (r.take (e - (a + 1)))) q ((goL D cs f (a + 1) (r.take (e - (a + 1)))) R) := if_pos hg2
      rw [eL] at hq
      refine pv_aloadn (pc := 65) (n := 0) 0 rfl rfl (fm_dec dtX11_goes 37 rfl) ?_
      refine pv_iloadn (pc := 66) (n := 3) 3 rfl rfl (fm_dec dtX11_goes 38 rfl) ?_
      refine pv_iconst (pc := 67) (v := 1) (by decide) (fm_dec dtX11_goes 39 rfl) ?_
      refine pv_iadd (pc := 68) (fm_dec dtX11_goes 40 rfl) ?_
      refine pv_aloadn (pc := 69) (n := 0) 0 rfl rfl (fm_dec dtX11_goes 41 rfl) ?_
      refine pv_getR (k := 0) (j := 25) (ci := 11) (pc := 70) 24 rfl (by decide) pfl_X11_58 (by decide) rfl (by decide) (fm_dec dtX11_goes 42 rfl) ?_
      refine pv_iloadn (pc := 73) (n := 3) 3 rfl rfl (fm_dec dtX11_goes 43 rfl) ?_
      refine pv_aald (k := 24) (n := 80) (r := (423 + a)) (pc := 74) (by decide) (Or.inr (Or.inr rfl)) rfl (rw_step.inb ha ha80) (rw_step.at ha ha80) (rw_step.2.2.2 _ ha80).2.1 (fm_dec dtX11_goes 44 rfl) ?_
      refine pv_iconst (pc := 75) (v := 2) (by decide) (fm_dec dtX11_goes 45 rfl) ?_
      refine pv_iald (k := (423 + a)) (n := 3) (pc := 76) (rw_step.2.2.2 _ ha80).2.2.1 (rw_step.2.2.2 _ ha80).2.2.2.1 (rw_step.2.2.2 _ ha80).2.2.2.2 (fm_inl (by decide)) (fm_dec dtX11_goes 46 rfl) ?_
      refine pv_invV2 (k := 0) (d' := (12 + f)) (pc := 77) pcv_X11_313 (by decide) rfl (Nat.le_of_ble_eq_true rfl) (by omega) (fm_dec dtX11_goes 47 rfl) ?_
      refine h.go (a := a + 1) (g := g9) (d := d9) hA hW (seg.tk hseg) (by rw [List.length_take]; omega) hwn (i32_p1 ha (by omega)) (by rw [he9, List.length_take]; omega) hg (fun M77 h77 f77 => ?_) 
      refine pv_then0 ?_
      refine pv_iincc (pc := 80) 4 1 (by decide) rfl (by decide) rfl (fm_dec dtX11_goes 48 rfl) ?_
      dsimp only [List.set_cons_zero, List.set_cons_succ]
      refine pv_goto (pc := 83) 42 (by decide) (fm_dec dtX11_goes 49 rfl) ?_
      exact ih M77 _ (c + 1) _ h77 (hW.n f77) (by have h9 := go_ge (D := D) (cs := cs) f (a + 1) (r.take (e - (a + 1))) R; omega) (i32_p1 hc (by omega)) (by omega) (fun M' v4 a1 b1 => hq M' v4 a1 (f77.trans b1))
set_option maxRecDepth 20000 in
theorem mg_E {D : dD} {cs : tC} {ss : tS} (hD : dOk D) (hN : nuO D ss) (h80 : ss.length ≤ 80) : ∀ f, mgL D cs ss f := by
  intro f
  induction f with
  | zero =>
    intro M Q a g d l R fr to sx v4 hA hW hseg hlen hwn ha ht hf hq
    omega
  | succ f ih =>
    intro M Q a g d l R fr to sx v4 hA hW hseg hlen hwn ha ht hf hq
    refine pv_iloadn (pc := 2) (n := 3) 3 rfl rfl (fm_dec dtX11_goes 2 rfl) ?_
    refine pv_iloadn (pc := 3) (n := 2) 2 rfl rfl (fm_dec dtX11_goes 3 rfl) ?_
    refine pv_icmp_ge (pc := 4) 155 (by decide) (fm_dec dtX11_goes 4 rfl) (fun hc4 => ?_) (fun hc4 => ?_)
    · exact pv_return (pc := 155) rfl (fm_dec dtX11_goes 88 rfl) (by have el : l = [] := (by cases l with | nil => rfl | cons s r => (rw [sc_le] at hc4; rw [List.length_cons] at ht; omega)); subst el; rw [go_0] at hq; exact hq M hA (nFr.refl M))
    · obtain ⟨s, r, rfl⟩ : ∃ s r, l = s :: r := (by cases l with | nil => (rw [sc_le] at hc4; rw [List.length_nil] at ht; omega) | cons s r => exact ⟨s, r, rfl⟩)
      rw [List.length_cons] at ht hlen
      have ha80 : a < 80 := (by omega)
      have hsa := hseg.hd
      have hnu := hN.2 s (List.mem_of_getElem? hsa)
      refine pv_aloadn (pc := 7) (n := 0) 0 rfl rfl (fm_dec dtX11_goes 5 rfl) ?_
      refine pv_getI (k := 0) (j := 36) (ci := 11) (pc := 8) pfl_X11_310 (by decide) rfl (by decide) (fm_dec dtX11_goes 6 rfl) ?_
      refine pv_sipush (pc := 11) (v := 200) (by decide) (fm_dec dtX11_goes 7 rfl) ?_
      refine pv_icmp_ge (pc := 14) 155 (by decide) (fm_dec dtX11_goes 8 rfl) (fun hc14 => ?_) (fun hc14 => ?_)
      · exact pv_return (pc := 155) rfl (fm_dec dtX11_goes 88 rfl) (by rw [go_s (by rw [sc_le] at hc14; have z200 : (200 : Int32).toInt = 200 := (by decide); have h9 := hA.2.2.2.2.2.1; omega)] at hq; exact hq M hA (nFr.refl M))
      · have hg2 : R.2.1 < 200 := (by rw [sc_le] at hc14; have z200 : (200 : Int32).toInt = 200 := (by decide); have h9 := hA.2.2.2.2.2.1; omega)
        have hP1 := hA.put hD (x := M.1 0 36 + 1) (Or.inr (Or.inl rfl))
        have e4 : ((fmI M 0 36 (M.1 0 36 + 1)).1 0 36).toInt = ((R.2.1 + 1 : Nat) : Int) := (by rw [fmI_s]; exact i32_p1 hA.2.2.2.2.2.1 (by omega))
        have f1 : nFr M (fmI M 0 36 (M.1 0 36 + 1)) := (nFr.refl M).put (Or.inr (Or.inl rfl))
        have hW1 : stRep (fmI M 0 36 (M.1 0 36 + 1)) 0 ss := hW.n f1
        have hA1 : mAll (fmI M 0 36 (M.1 0 36 + 1)) D cs (R.1, R.2.1 + 1, R.2.2) := ⟨hP1.1, hP1.2.1, hA.2.2.1, hP1.2.2, hA.2.2.2.2.1, e4, hA.2.2.2.2.2.2.1, hA.2.2.2.2.2.2.2.1, (by show R.2.2.1 + R.2.2.2 ≤ R.2.1 + 1; have := hA.2.2.2.2.2.2.2.2.1; omega), hg2⟩
        have hrow1 := hW1 a s hsa
        rw [show 423 + 0 + a = 423 + a by omega] at hrow1
        refine pv_aloadn (pc := 17) (n := 0) 0 rfl rfl (fm_dec dtX11_goes 9 rfl) ?_
        refine pv_dup (pc := 18) rfl (fm_dec dtX11_goes 10 rfl) ?_
        refine pv_getI (k := 0) (j := 36) (ci := 11) (pc := 19) pfl_X11_310 (by decide) rfl (by decide) (fm_dec dtX11_goes 11 rfl) ?_
        refine pv_iconst (pc := 22) (v := 1) (by decide) (fm_dec dtX11_goes 12 rfl) ?_
        refine pv_iadd (pc := 23) (fm_dec dtX11_goes 13 rfl) ?_
        refine pv_putI (k := 0) (j := 36) (ci := 11) (pc := 24) pfl_X11_310 (by decide) rfl (by decide) (fm_dec dtX11_goes 14 rfl) ?_
        refine pv_aloadn (pc := 27) (n := 0) 0 rfl rfl (fm_dec dtX11_goes 15 rfl) ?_
        refine pv_getR (k := 0) (j := 25) (ci := 11) (pc := 28) 24 rfl (by decide) pfl_X11_58 (by decide) rfl (by decide) (fm_dec dtX11_goes 16 rfl) ?_
        refine pv_iloadn (pc := 31) (n := 3) 3 rfl rfl (fm_dec dtX11_goes 17 rfl) ?_
        refine pv_aald (k := 24) (n := 80) (r := (423 + a)) (pc := 32) (by decide) (Or.inr (Or.inr rfl)) rfl (rw_step.inb ha ha80) (rw_step.at ha ha80) (rw_step.2.2.2 _ ha80).2.1 (fm_dec dtX11_goes 18 rfl) ?_
        refine pv_iconst (pc := 33) (v := 0) (by decide) (fm_dec dtX11_goes 19 rfl) ?_
        refine pv_iald (k := (423 + a)) (n := 3) (pc := 34) (rw_step.2.2.2 _ ha80).2.2.1 (rw_step.2.2.2 _ ha80).2.2.2.1 (rw_step.2.2.2 _ ha80).2.2.2.2 (fm_inl (by decide)) (fm_dec dtX11_goes 20 rfl) ?_
        refine pv_iconst (pc := 35) (v := 4) (by decide) (fm_dec dtX11_goes 21 rfl) ?_
        refine pv_icmp_ne (pc := 36) 89 (by decide) (fm_dec dtX11_goes 22 rfl) (fun hc36 => ?_) (fun hc36 => ?_)
        · have h4 : ¬ s.1 = 4 := (fun h9 => hc36 (i32_ext (by have h8 : ((fmI M 0 36 (M.1 0 36 + 1)).1 (423 + a) (Int32.toNatClampNeg 0)).toInt = (s.1 : Int) := hrow1.1; rw [h8, h9]; decide)))
          obtain ⟨hk4, hs2, g8, w8⟩ := wn_1 hwn h4
          rw [go_1 hg2 h4] at hq
          refine pv_aloadn (pc := 89) (n := 0) 0 rfl rfl (fm_dec dtX11_goes 51 rfl) ?_
          refine pv_aloadn (pc := 90) (n := 0) 0 rfl rfl (fm_dec dtX11_goes 52 rfl) ?_
          refine pv_getR (k := 0) (j := 27) (ci := 11) (pc := 91) 7 rfl (by decide) pfl_X11_61 (by decide) rfl (by decide) (fm_dec dtX11_goes 53 rfl) ?_
          refine pv_aloadn (pc := 94) (n := 0) 0 rfl rfl (fm_dec dtX11_goes 54 rfl) ?_
          refine pv_getR (k := 0) (j := 25) (ci := 11) (pc := 95) 24 rfl (by decide) pfl_X11_58 (by decide) rfl (by decide) (fm_dec dtX11_goes 55 rfl) ?_
          refine pv_iloadn (pc := 98) (n := 3) 3 rfl rfl (fm_dec dtX11_goes 56 rfl) ?_
          refine pv_aald (k := 24) (n := 80) (r := (423 + a)) (pc := 99) (by decide) (Or.inr (Or.inr rfl)) rfl (rw_step.inb ha ha80) (rw_step.at ha ha80) (rw_step.2.2.2 _ ha80).2.1 (fm_dec dtX11_goes 57 rfl) ?_
          refine pv_invV2 (k := 0) (d' := 9) (pc := 100) pcv_X11_316 (by decide) rfl (Nat.le_of_ble_eq_true rfl) (by omega) (fm_dec dtX11_goes 58 rfl) ?_
          refine c_mds (k := s.1) (i := s.2.1) hD hP1.1 hP1.2.1 hA.2.2.1 hP1.2.2 hA.2.2.2.2.1 ha80 hrow1.1 hk4 hrow1.2.1 (fun h9 => hnu.1 h9) (fun h100 => ?_) (fun M9 S9 h100 x100 f100 => ?_)  
          · refine pv_then1 ?_
            refine pv_istore (pc := 103) (i := 4) (by decide) rfl (fm_dec dtX11_goes 59 rfl) ?_
            dsimp only [List.set_cons_zero, List.set_cons_succ]
            refine pv_aloadn (pc := 105) (n := 0) 0 rfl rfl (fm_dec dtX11_goes 60 rfl) ?_
            refine pv_dup (pc := 106) rfl (fm_dec dtX11_goes 61 rfl) ?_
            refine pv_getI (k := 0) (j := 37) (ci := 11) (pc := 107) pfl_X11_320 (by decide) rfl (by decide) (fm_dec dtX11_goes 62 rfl) ?_
            refine pv_iload (pc := 110) (i := 4) rfl (fm_dec dtX11_goes 63 rfl) ?_
            refine pv_if_eq (pc := 112) 119 (by decide) (fm_dec dtX11_goes 64 rfl) (fun _ => ?_) (fun hc112 => by exfalso; revert hc112; decide)
            refine pv_iconst (pc := 119) (v := 0) (by decide) (fm_dec dtX11_goes 67 rfl) ?_
            refine pv_iadd (pc := 120) (fm_dec dtX11_goes 68 rfl) ?_
            refine pv_putI (k := 0) (j := 37) (ci := 11) (pc := 121) pfl_X11_320 (by decide) rfl (by decide) (fm_dec dtX11_goes 69 rfl) ?_
            refine pv_aloadn (pc := 124) (n := 0) 0 rfl rfl (fm_dec dtX11_goes 70 rfl) ?_
            refine pv_dup (pc := 125) rfl (fm_dec dtX11_goes 71 rfl) ?_
            refine pv_getI (k := 0) (j := 33) (ci := 11) (pc := 126) pfl_X11_203 (by decide) rfl (by decide) (fm_dec dtX11_goes 72 rfl) ?_
            refine pv_iload (pc := 129) (i := 4) rfl (fm_dec dtX11_goes 73 rfl) ?_
            refine pv_if_eq (pc := 131) 138 (by decide) (fm_dec dtX11_goes 74 rfl) (fun _ => ?_) (fun hc131 => by exfalso; revert hc131; decide)
            refine pv_iconst (pc := 138) (v := 1) (by decide) (fm_dec dtX11_goes 77 rfl) ?_
            refine pv_iadd (pc := 139) (fm_dec dtX11_goes 78 rfl) ?_
            refine pv_putI (k := 0) (j := 33) (ci := 11) (pc := 140) pfl_X11_203 (by decide) rfl (by decide) (fm_dec dtX11_goes 79 rfl) ?_
            refine pv_aloadn (pc := 143) (n := 0) 0 rfl rfl (fm_dec dtX11_goes 80 rfl) ?_
            refine pv_getR (k := 0) (j := 25) (ci := 11) (pc := 144) 24 rfl (by decide) pfl_X11_58 (by decide) rfl (by decide) (fm_dec dtX11_goes 81 rfl) ?_
            refine pv_iloadn (pc := 147) (n := 3) 3 rfl rfl (fm_dec dtX11_goes 82 rfl) ?_
            refine pv_aald (k := 24) (n := 80) (r := (423 + a)) (pc := 148) (by decide) (Or.inr (Or.inr rfl)) rfl (rw_step.inb ha ha80) (rw_step.at ha ha80) (rw_step.2.2.2 _ ha80).2.1 (fm_dec dtX11_goes 83 rfl) ?_
            refine pv_iconst (pc := 149) (v := 2) (by decide) (fm_dec dtX11_goes 84 rfl) ?_
            refine pv_iald (k := (423 + a)) (n := 3) (pc := 150) (rw_step.2.2.2 _ ha80).2.2.1 (rw_step.2.2.2 _ ha80).2.2.2.1 (rw_step.2.2.2 _ ha80).2.2.2.2 (fm_inl (by decide)) (fm_dec dtX11_goes 85 rfl) ?_
            refine pv_istoren (pc := 151) (n := 3) 3 rfl (by decide) rfl (fm_dec dtX11_goes 86 rfl) ?_
            dsimp only [List.set_cons_zero, List.set_cons_succ]
            refine pv_goto (pc := 152) 2 (by decide) (fm_dec dtX11_goes 87 rfl) ?_
            have eR : oneR D cs R s.1 s.2.1 = (R.1, R.2.1 + 1, R.2.2.1, R.2.2.2 + 1) := (by unfold oneR; rw [h100])
            rw [eR] at hq
            have fN : nFr M (fmI (fmI (fmI M 0 36 (M.1 0 36 + 1)) 0 37 ((fmI M 0 36 (M.1 0 36 + 1)).1 0 37 + 0)) 0 33 ((fmI (fmI M 0 36 (M.1 0 36 + 1)) 0 37 ((fmI M 0 36 (M.1 0 36 + 1)).1 0 37 + 0)).1 0 33 + 1)) := (f1.put (Or.inr (Or.inr rfl))).put (Or.inl rfl)
            have hb9 := hA.2.2.2.2.2.2.2.2.1
            have z0 : (0 : Int32).toInt = 0 := (by decide)
            have er9 : ((fmI (fmI (fmI M 0 36 (M.1 0 36 + 1)) 0 37 ((fmI M 0 36 (M.1 0 36 + 1)).1 0 37 + 0)) 0 33 ((fmI (fmI M 0 36 (M.1 0 36 + 1)) 0 37 ((fmI M 0 36 (M.1 0 36 + 1)).1 0 37 + 0)).1 0 33 + 1)).1 (423 + a) (Int32.toNatClampNeg 2)).toInt = ((a + 1 : Nat) : Int) := (by have h8 := (hW.n fN) a s hsa; rw [show 423 + 0 + a = 423 + a by omega] at h8; have h7 := h8.2.2; rw [hs2] at h7; exact h7)
            have xN : mAll (fmI (fmI (fmI M 0 36 (M.1 0 36 + 1)) 0 37 ((fmI M 0 36 (M.1 0 36 + 1)).1 0 37 + 0)) 0 33 ((fmI (fmI M 0 36 (M.1 0 36 + 1)) 0 37 ((fmI M 0 36 (M.1 0 36 + 1)).1 0 37 + 0)).1 0 33 + 1)) D cs (R.1, R.2.1 + 1, R.2.2.1, R.2.2.2 + 1) := ⟨hA.1.k hD (fun k j a1 => fN.1 k j (by omega) (by omega) (by omega) (by omega)), hA.2.1.f (fN.2.1 17 (by decide) (by decide) (by decide)) (fun k j a1 => fN.1 k j (by omega) (by omega) (by omega) (by omega)), hA.2.2.1, hA.2.2.2.1.of (fun j => rfl), hA.2.2.2.2.1, e4, (by show ((fmI M 0 36 (M.1 0 36 + 1)).1 0 37 + 0).toInt = (R.2.2.1 : Int); have h9 : ((fmI M 0 36 (M.1 0 36 + 1)).1 0 37).toInt = (R.2.2.1 : Int) := hA.2.2.2.2.2.2.1; rw [sc_add (by omega) (by omega)]; omega), (by show ((fmI M 0 36 (M.1 0 36 + 1)).1 0 33 + 1).toInt = _; exact i32_p1 hA.2.2.2.2.2.2.2.1 (by omega)), (by show R.2.2.1 + (R.2.2.2 + 1) ≤ R.2.1 + 1; omega), hg2⟩
            refine (ih _ Q (a + 1) g8 d r _ _ _ _ _ xN (hW.n fN) hseg.tl (by omega) w8 er9 (by rw [ht]; congr 1; omega) (by show 200 - (R.2.1 + 1) < f; omega) (fun M' h1 h2 => hq M' h1 (fN.trans h2))).up (by omega)
          · refine pv_then1 ?_
            refine pv_istore (pc := 103) (i := 4) (by decide) rfl (fm_dec dtX11_goes 59 rfl) ?_
            dsimp only [List.set_cons_zero, List.set_cons_succ]
            refine pv_aloadn (pc := 105) (n := 0) 0 rfl rfl (fm_dec dtX11_goes 60 rfl) ?_
            refine pv_dup (pc := 106) rfl (fm_dec dtX11_goes 61 rfl) ?_
            refine pv_getI (k := 0) (j := 37) (ci := 11) (pc := 107) pfl_X11_320 (by decide) rfl (by decide) (fm_dec dtX11_goes 62 rfl) ?_
            refine pv_iload (pc := 110) (i := 4) rfl (fm_dec dtX11_goes 63 rfl) ?_
            refine pv_if_eq (pc := 112) 119 (by decide) (fm_dec dtX11_goes 64 rfl) (fun hc112 => by exfalso; revert hc112; decide) (fun _ => ?_)
            refine pv_iconst (pc := 115) (v := 1) (by decide) (fm_dec dtX11_goes 65 rfl) ?_
            refine pv_goto (pc := 116) 120 (by decide) (fm_dec dtX11_goes 66 rfl) ?_
            refine pv_iadd (pc := 120) (fm_dec dtX11_goes 68 rfl) ?_
            refine pv_putI (k := 0) (j := 37) (ci := 11) (pc := 121) pfl_X11_320 (by decide) rfl (by decide) (fm_dec dtX11_goes 69 rfl) ?_
            refine pv_aloadn (pc := 124) (n := 0) 0 rfl rfl (fm_dec dtX11_goes 70 rfl) ?_
            refine pv_dup (pc := 125) rfl (fm_dec dtX11_goes 71 rfl) ?_
            refine pv_getI (k := 0) (j := 33) (ci := 11) (pc := 126) pfl_X11_203 (by decide) rfl (by decide) (fm_dec dtX11_goes 72 rfl) ?_
            refine pv_iload (pc := 129) (i := 4) rfl (fm_dec dtX11_goes 73 rfl) ?_
            refine pv_if_eq (pc := 131) 138 (by decide) (fm_dec dtX11_goes 74 rfl) (fun hc131 => by exfalso; revert hc131; decide) (fun _ => ?_)
            refine pv_iconst (pc := 134) (v := 0) (by decide) (fm_dec dtX11_goes 75 rfl) ?_
            refine pv_goto (pc := 135) 139 (by decide) (fm_dec dtX11_goes 76 rfl) ?_
            refine pv_iadd (pc := 139) (fm_dec dtX11_goes 78 rfl) ?_
            refine pv_putI (k := 0) (j := 33) (ci := 11) (pc := 140) pfl_X11_203 (by decide) rfl (by decide) (fm_dec dtX11_goes 79 rfl) ?_
            refine pv_aloadn (pc := 143) (n := 0) 0 rfl rfl (fm_dec dtX11_goes 80 rfl) ?_
            refine pv_getR (k := 0) (j := 25) (ci := 11) (pc := 144) 24 rfl (by decide) pfl_X11_58 (by decide) rfl (by decide) (fm_dec dtX11_goes 81 rfl) ?_
            refine pv_iloadn (pc := 147) (n := 3) 3 rfl rfl (fm_dec dtX11_goes 82 rfl) ?_
            refine pv_aald (k := 24) (n := 80) (r := (423 + a)) (pc := 148) (by decide) (Or.inr (Or.inr rfl)) rfl (rw_step.inb ha ha80) (rw_step.at ha ha80) (rw_step.2.2.2 _ ha80).2.1 (fm_dec dtX11_goes 83 rfl) ?_
            refine pv_iconst (pc := 149) (v := 2) (by decide) (fm_dec dtX11_goes 84 rfl) ?_
            refine pv_iald (k := (423 + a)) (n := 3) (pc := 150) (rw_step.2.2.2 _ ha80).2.2.1 (rw_step.2.2.2 _ ha80).2.2.2.1 (rw_step.2.2.2 _ ha80).2.2.2.2 (fm_inl (by decide)) (fm_dec dtX11_goes 85 rfl) ?_
            refine pv_istoren (pc := 151) (n := 3) 3 rfl (by decide) rfl (fm_dec dtX11_goes 86 rfl) ?_
            dsimp only [List.set_cons_zero, List.set_cons_succ]
            refine pv_goto (pc := 152) 2 (by decide) (fm_dec dtX11_goes 87 rfl) ?_
            have eR : oneR D cs R s.1 s.2.1 = (S9, R.2.1 + 1, R.2.2.1 + 1, R.2.2.2) := (by unfold oneR; rw [h100])
            rw [eR] at hq
            have fM : nFr M M9 := f1.trans f100.n
            have fS : nFr M (fmI (fmI M9 0 37 (M9.1 0 37 + 1)) 0 33 ((fmI M9 0 37 (M9.1 0 37 + 1)).1 0 33 + 0)) := (fM.put (Or.inr (Or.inr rfl))).put (Or.inl rfl)
            have hb9 := hA.2.2.2.2.2.2.2.2.1
            have z0 : (0 : Int32).toInt = 0 := (by decide)
            have q37 : (M9.1 0 37).toInt = (R.2.2.1 : Int) := (by rw [f100.1 0 37 (by decide) (by decide) (by decide)]; exact hA.2.2.2.2.2.2.1)
            have q33 : (M9.1 0 33).toInt = (R.2.2.2 : Int) := (by rw [f100.1 0 33 (by decide) (by decide) (by decide)]; exact hA.2.2.2.2.2.2.2.1)
            have q36 : (M9.1 0 36).toInt = ((R.2.1 + 1 : Nat) : Int) := (by rw [f100.1 0 36 (by decide) (by decide) (by decide)]; exact e4)
            have hO9 := do_ok hD hA.2.2.2.2.1 hnu.1 h100
            have er9 : ((fmI (fmI M9 0 37 (M9.1 0 37 + 1)) 0 33 ((fmI M9 0 37 (M9.1 0 37 + 1)).1 0 33 + 0)).1 (423 + a) (Int32.toNatClampNeg 2)).toInt = ((a + 1 : Nat) : Int) := (by have h8 := (hW.n fS) a s hsa; rw [show 423 + 0 + a = 423 + a by omega] at h8; have h7 := h8.2.2; rw [hs2] at h7; exact h7)
            have xS : mAll (fmI (fmI M9 0 37 (M9.1 0 37 + 1)) 0 33 ((fmI M9 0 37 (M9.1 0 37 + 1)).1 0 33 + 0)) D cs (S9, R.2.1 + 1, R.2.2.1 + 1, R.2.2.2) := ⟨hA.1.k hD (fun k j a1 => fS.1 k j (by omega) (by omega) (by omega) (by omega)), hA.2.1.f (fS.2.1 17 (by decide) (by decide) (by decide)) (fun k j a1 => fS.1 k j (by omega) (by omega) (by omega) (by omega)), hA.2.2.1, x100.of (fun j => rfl), hO9, q36, (by show (M9.1 0 37 + 1).toInt = _; exact i32_p1 q37 (by omega)), (by show (M9.1 0 33 + 0).toInt = (R.2.2.2 : Int); rw [sc_add (by omega) (by omega)]; omega), (by show R.2.2.1 + 1 + R.2.2.2 ≤ R.2.1 + 1; omega), hg2⟩
            refine (ih _ Q (a + 1) g8 d r _ _ _ _ _ xS (hW.n fS) hseg.tl (by omega) w8 er9 (by rw [ht]; congr 1; omega) (by show 200 - (R.2.1 + 1) < f; omega) (fun M' h1 h2 => hq M' h1 (fS.trans h2))).up (by omega)
        · have h4 : s.1 = 4 := (by have h9 := congrArg Int32.toInt hc36; have h8 : ((fmI M 0 36 (M.1 0 36 + 1)).1 (423 + a) (Int32.toNatClampNeg 0)).toInt = (s.1 : Int) := hrow1.1; rw [h8] at h9; have z4 : (4 : Int32).toInt = 4 := (by decide); omega)
          have hwn := wn_4 hwn h4
          rw [go_4 hg2 h4] at hq
          refine pv_iconst (pc := 39) (v := 0) (by decide) (fm_dec dtX11_goes 23 rfl) ?_
          refine pv_istore (pc := 40) (i := 4) (by decide) rfl (fm_dec dtX11_goes 24 rfl) ?_
          dsimp only [List.set_cons_zero, List.set_cons_succ]
          obtain ⟨w1, w2, w3, ⟨g9, w4⟩, g8, w5⟩ := hwn
          have hlt : R.2.1 + 1 ≤ (loR (goL D cs f (a + 1) (r.take (s.2.2 - (a + 1)))) s.2.1 (R.1, R.2.1 + 1, R.2.2)).2.1 := lo_ge (fun R => go_ge f _ _ R) s.2.1 (R.1, R.2.1 + 1, R.2.2)
          refine mge_in ih hsa rfl rfl h4 hnu.2 hseg.tl (by omega) w2 w3 w4 ha ha80 s.2.1 _ _ 0 0 hA1 hW1 (by show 200 - (R.2.1 + 1) < f; omega) (by decide) (by omega) (fun M9 v9 a9 f9 => ?_)
          have hr9 := (hW1.n f9) a s hsa
          rw [show 423 + 0 + a = 423 + a by omega] at hr9
          refine pv_aloadn (pc := 143) (n := 0) 0 rfl rfl (fm_dec dtX11_goes 80 rfl) ?_
          refine pv_getR (k := 0) (j := 25) (ci := 11) (pc := 144) 24 rfl (by decide) pfl_X11_58 (by decide) rfl (by decide) (fm_dec dtX11_goes 81 rfl) ?_
          refine pv_iloadn (pc := 147) (n := 3) 3 rfl rfl (fm_dec dtX11_goes 82 rfl) ?_
          refine pv_aald (k := 24) (n := 80) (r := (423 + a)) (pc := 148) (by decide) (Or.inr (Or.inr rfl)) rfl (rw_step.inb ha ha80) (rw_step.at ha ha80) (rw_step.2.2.2 _ ha80).2.1 (fm_dec dtX11_goes 83 rfl) ?_
          refine pv_iconst (pc := 149) (v := 2) (by decide) (fm_dec dtX11_goes 84 rfl) ?_
          refine pv_iald (k := (423 + a)) (n := 3) (pc := 150) (rw_step.2.2.2 _ ha80).2.2.1 (rw_step.2.2.2 _ ha80).2.2.2.1 (rw_step.2.2.2 _ ha80).2.2.2.2 (fm_inl (by decide)) (fm_dec dtX11_goes 85 rfl) ?_
          refine pv_istoren (pc := 151) (n := 3) 3 rfl (by decide) rfl (fm_dec dtX11_goes 86 rfl) ?_
          dsimp only [List.set_cons_zero, List.set_cons_succ]
          refine pv_goto (pc := 152) 2 (by decide) (fm_dec dtX11_goes 87 rfl) ?_
          refine (ih M9 Q s.2.2 g8 d (r.drop (s.2.2 - (a + 1))) _ _ _ _ _ a9 (hW1.n f9) (by have h8 := hseg.tl.dp (n := s.2.2 - (a + 1)); rw [show a + 1 + (s.2.2 - (a + 1)) = s.2.2 by omega] at h8; exact h8) (by rw [List.length_drop]; omega) w5 hr9.2.2 (by rw [ht, List.length_drop]; congr 1; omega) (by omega) (fun M' h1 h2 => hq M' h1 ((f1.trans f9).trans h2))).up (by omega)
end
