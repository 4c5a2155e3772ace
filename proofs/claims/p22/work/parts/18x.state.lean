-- THE STATE, step after step
-- WORKS DONE, as they should be
/-- a state: week, hours, the dead as bits, lacked, ran, lost in 64ths; and how old each piece is, -1 for none -/
abbrev aS : Type := (Nat × Nat × Nat × Nat × Nat × Int) × (Nat → Int)
def cgS (D : dD) (li a b : Int) : Nat → Nat
  | 0 => 0
  | n + 1 => if D.2.2.2.1 n 0 = li ∧ a < D.2.2.2.1 n 2 ∧ D.2.2.2.1 n 2 ≤ b then cgS D li a b n + 1 else cgS D li a b n
theorem cg_le {D : dD} {li a b : Int} : ∀ n, cgS D li a b n ≤ n := by
  intro n
  induction n with
  | zero => exact Nat.le_refl _
  | succ n ih =>
    show (if D.2.2.2.1 n 0 = li ∧ a < D.2.2.2.1 n 2 ∧ D.2.2.2.1 n 2 ≤ b then cgS D li a b n + 1 else cgS D li a b n) ≤ n + 1
    split <;> omega
/-- how many facts of a life changed behind week a, up to week b -/
def cgA (D : dD) (li a b : Int) : Nat := cgS D li a b D.2.2.1
/-- 1 if who wrote it is dead -/
def sdA (D : dD) (dead i : Nat) : Nat := if D.2.1 i 5 < 0 then 0 else if dead.testBit (D.2.1 i 5).toNat then 1 else 0
/-- how wrong a piece of life i is that is so old in week w -/
def wrS (D : dD) (cs : tC) (dead w i age : Nat) : Int := (lwV cs (nI age) (nI ((D.2.1 i 0).toNat + w / 52)) (nI (D.2.1 i 2).toNat) (nI (sdA D dead i)) (nI (cgA D i ((w : Int) - age) w))).toInt
/-- what its death would lose now, in 64ths -/
def coS (D : dD) (cs : tC) (S : aS) (i : Nat) : Int := if S.2 i = -1 then 64 * D.2.2.2.2 3 * D.2.1 i 2 else D.2.2.2.2 4 * D.2.1 i 2 * wrS D cs S.1.2.2.1 S.1.1 i (S.2 i).toNat
def hoS (D : dD) (S : aS) (i : Nat) : Nat := if S.2 i = -1 then (D.2.1 i 3).toNat else max 1 ((D.2.1 i 3).toNat / (D.2.2.2.2 5).toNat)
/-- a piece is put now -/
def puS (D : dD) (S : aS) (i : Nat) : Option aS := if S.1.2.2.1.testBit i ∨ S.2 i = 0 ∨ S.1.2.1 < hoS D S i then none else some ((S.1.1, S.1.2.1 - hoS D S i, S.1.2.2), fun j => if j = i then 0 else S.2 j)
def diS (D : dD) (cs : tC) (S : aS) (i : Nat) : Option aS := if S.1.2.2.1.testBit i then none else if S.2 i = -1 then some ((S.1.1, S.1.2.1 - 2, S.1.2.2.1 ||| 1 <<< i, S.1.2.2.2.1 + 1, S.1.2.2.2.2.1, S.1.2.2.2.2.2 + coS D cs S i), S.2) else some ((S.1.1, S.1.2.1, S.1.2.2.1 ||| 1 <<< i, S.1.2.2.2.1, S.1.2.2.2.2.1 + 1, S.1.2.2.2.2.2 + coS D cs S i), fun j => if j = i then -1 else S.2 j)
def weS (D : dD) (S : aS) : Option aS := if S.1.1 = 200 then none else some ((S.1.1 + 1, (D.2.2.2.2 2).toNat, S.1.2.2), fun j => if S.2 j = -1 then -1 else S.2 j + 1)
def doS (D : dD) (cs : tC) (S : aS) (k i : Nat) : Option aS := match k with
  | 0 => if S.2 i = -1 then puS D S i else none
  | 1 => if S.2 i = -1 then none else puS D S i
  | 2 => diS D cs S i
  | _ => weS D S
/-- a state under way: begun, done, refused -/
abbrev gR : Type := aS × Nat × Nat × Nat
def oneR (D : dD) (cs : tC) (R : gR) (k i : Nat) : gR := match doS D cs R.1 k i with
  | some S => (S, R.2.1 + 1, R.2.2.1 + 1, R.2.2.2)
  | none => (R.1, R.2.1 + 1, R.2.2.1, R.2.2.2 + 1)
def loR (F : gR → gR) : Nat → gR → gR
  | 0, R => R
  | n + 1, R => if R.2.1 < 200 then loR F n (F R) else R
/-- the steps l, that stand from place a on, are done -/
def goL (D : dD) (cs : tC) : Nat → Nat → tS → gR → gR
  | 0, _, _, R => R
  | _ + 1, _, [], R => R
  | f + 1, a, s :: r, R => if R.2.1 < 200 then (if s.1 = 4 then goL D cs f s.2.2 (r.drop (s.2.2 - (a + 1))) (loR (goL D cs f (a + 1) (r.take (s.2.2 - (a + 1)))) s.2.1 (R.1, R.2.1 + 1, R.2.2)) else goL D cs f (a + 1) r (oneR D cs R s.1 s.2.1)) else R
/-- well nested: d more brackets may be begun -/
def wnL : Nat → Nat → Nat → tS → Prop
  | _, _, _, [] => True
  | 0, _, _, _ :: _ => False
  | f + 1, d, a, s :: r => if s.1 = 4 then 0 < d ∧ a + 1 ≤ s.2.2 ∧ s.2.2 ≤ a + 1 + r.length ∧ wnL f (d - 1) (a + 1) (r.take (s.2.2 - (a + 1))) ∧ wnL f d s.2.2 (r.drop (s.2.2 - (a + 1))) else s.1 < 4 ∧ s.2.2 = a + 1 ∧ wnL f d (a + 1) r
theorem wn_up : ∀ (f g d a : Nat) (l : tS), f ≤ g → wnL f d a l → wnL g d a l := by
  intro f
  induction f with
  | zero =>
    intro g d a l hg h
    cases l with
    | nil => cases g <;> trivial
    | cons s r => exact absurd h (by intro h; exact h)
  | succ f ih =>
    intro g d a l hg h
    obtain ⟨g, rfl⟩ : ∃ g', g = g' + 1 := ⟨g - 1, by omega⟩
    cases l with
    | nil => trivial
    | cons s r =>
      unfold wnL at h ⊢
      split at h
      · rename_i h4
        rw [if_pos h4]
        exact ⟨h.1, h.2.1, h.2.2.1, ih g _ _ _ (by omega) h.2.2.2.1, ih g _ _ _ (by omega) h.2.2.2.2⟩
      · rename_i h4
        rw [if_neg h4]
        exact ⟨h.1, h.2.1, ih g _ _ _ (by omega) h.2.2⟩
theorem wn_app : ∀ (f g d a : Nat) (l m : tS), wnL f d a l → wnL g d (a + l.length) m → wnL (f + g) d a (l ++ m) := by
  intro f
  induction f with
  | zero =>
    intro g d a l m hl hm
    cases l with
    | nil => exact wn_up _ _ _ _ _ (by omega) hm
    | cons s r => exact absurd hl (by intro h; exact h)
  | succ f ih =>
    intro g d a l m hl hm
    cases l with
    | nil => exact wn_up _ _ _ _ _ (by omega) hm
    | cons s r =>
      rw [show f + 1 + g = (f + g) + 1 by omega]
      show wnL ((f + g) + 1) d a (s :: (r ++ m))
      rw [List.length_cons] at hm
      unfold wnL at hl ⊢
      split at hl
      · rename_i h4
        rw [if_pos h4]
        obtain ⟨h0, h1, h2, h3, h5⟩ := hl
        have hn : s.2.2 - (a + 1) ≤ r.length := by omega
        refine ⟨h0, h1, by rw [List.length_append]; omega, ?_, ?_⟩
        · rw [List.take_append_of_le_length hn]
          exact wn_up _ _ _ _ _ (by omega) h3
        · rw [List.drop_append_of_le_length hn]
          exact ih g d s.2.2 _ m h5 (by rw [List.length_drop, show s.2.2 + (r.length - (s.2.2 - (a + 1))) = a + (r.length + 1) by omega]; exact hm)
      · rename_i h4
        rw [if_neg h4]
        exact ⟨hl.1, hl.2.1, ih g d (a + 1) r m hl.2.2 (by rw [show a + 1 + r.length = a + (r.length + 1) by omega]; exact hm)⟩
/-- what is read is well nested -/
theorem spSt_wn {tx : tX} {l : Nat} : ∀ (f md o b p : Nat) (ss : tS) (q : Nat), o ≤ 6 → spSt tx l f md o b p = .inr (ss, q) → ∃ g, wnL g (6 - o) b ss := by
  intro f
  induction f with
  | zero => intro md o b p ss q _ h; cases md <;> cases h
  | succ f ih =>
    intro md o b p ss q ho h
    cases md with
    | zero =>
      have h : spOneS tx l (fun q => spSt tx l f 1 (o + 1) (b + 1) q) o b p = .inr (ss, q) := h
      unfold spOneS at h
      split at h
      · cases h
      · rename_i k hk
        have hk4 := (stK_ne hk).2
        split at h
        · split at h
          · cases h
          · rename_i h6
            obtain ⟨v, q1, e1, h⟩ := spBind_ok h
            obtain ⟨u2, q2, e2, h⟩ := spBind_ok h
            obtain ⟨s3, q3, e3, h⟩ := spBind_ok h
            obtain ⟨u4, q4, e4, h⟩ := spBind_ok h
            obtain ⟨u5, q5, e5, h⟩ := spBind_ok h
            cases h
            obtain ⟨g, hg⟩ := ih _ _ _ _ _ _ (by omega) e3
            refine ⟨g + 1, ?_⟩
            unfold wnL
            rw [if_pos rfl]
            show 0 < 6 - o ∧ b + 1 ≤ b + 1 + s3.length ∧ b + 1 + s3.length ≤ b + 1 + s3.length ∧ wnL g (6 - o - 1) (b + 1) (s3.take (b + 1 + s3.length - (b + 1))) ∧ wnL g (6 - o) (b + 1 + s3.length) (s3.drop (b + 1 + s3.length - (b + 1)))
            rw [show b + 1 + s3.length - (b + 1) = s3.length by omega, List.take_length, List.drop_length, show 6 - o - 1 = 6 - (o + 1) by omega]
            exact ⟨by omega, by omega, Nat.le_refl _, hg, by cases g <;> trivial⟩
        · split at h
          · unfold spWk at h
            obtain ⟨u2, q2, e2, h⟩ := spBind_ok h
            cases h
            refine ⟨1, ?_⟩
            unfold wnL
            rw [if_neg (show ¬ (3 : Nat) = 4 by decide)]
            exact ⟨(by show (3 : Nat) < 4; decide), rfl, trivial⟩
          · rename_i h4 h3
            unfold spSi at h
            obtain ⟨v, q1, e1, h⟩ := spBind_ok h
            obtain ⟨u2, q2, e2, h⟩ := spBind_ok h
            cases h
            refine ⟨1, ?_⟩
            unfold wnL
            rw [if_neg (show ¬ k = 4 from h4)]
            exact ⟨by omega, rfl, trivial⟩
    | succ md =>
      have h : (if tx p = 93 then .inr ([], p) else spBind (spSt tx l f 0 o b p) fun ss q => spBind (spSt tx l f 1 o (b + ss.length) (sk tx q)) fun ts q => .inr (ss ++ ts, q)) = (.inr (ss, q) : tR tS) := h
      split at h
      · cases h
        exact ⟨0, trivial⟩
      · obtain ⟨s1, q1, e1, h⟩ := spBind_ok h
        obtain ⟨s2, q2, e2, h⟩ := spBind_ok h
        cases h
        obtain ⟨g1, hg1⟩ := ih _ _ _ _ _ _ ho e1
        obtain ⟨g2, hg2⟩ := ih _ _ _ _ _ _ ho e2
        exact ⟨g1 + g2, wn_app _ _ _ _ _ _ hg1 hg2⟩
theorem wkL_wn {tx : tX} {n l : Nat} : ∀ (f b p : Nat) (ss : tS), wkL tx n l f b p = .inr ss → ∃ g, wnL g 6 b ss := by
  intro f
  induction f with
  | zero => intro b p ss h; cases h
  | succ f ih =>
    intro b p ss h
    simp only [wkL] at h
    split at h
    · cases h
      exact ⟨0, trivial⟩
    · split at h
      · cases h
      · rename_i s1 q1 e1
        split at h
        · cases h
        · rename_i s2 e2
          cases h
          obtain ⟨g1, hg1⟩ := spSt_wn 400 0 0 b p s1 q1 (by decide) e1
          obtain ⟨g2, hg2⟩ := ih _ _ _ e2
          exact ⟨g1 + g2, wn_app _ _ _ _ _ _ hg1 hg2⟩
theorem spWork_wn {tx : tX} {n l : Nat} {ss : tS} (h : spWork tx n l = .inr ss) : ∃ g, wnL g 6 0 ss := wkL_wn 700 0 (sk tx 0) ss h
/-- a state as it stands here -/
def xst (M : fmM) (D : dD) (S : aS) : Prop := (M.1 47 1).toInt = (S.1.2.2.1 : Int) ∧ (M.1 47 2).toInt = (S.1.1 : Int) ∧ (M.1 47 3).toInt = (S.1.2.1 : Int) ∧ (M.1 47 4).toInt = (S.1.2.2.2.1 : Int) ∧ (M.1 47 5).toInt = (S.1.2.2.2.2.1 : Int) ∧ (M.2 47 6).toInt = S.1.2.2.2.2.2 ∧ ∀ i, i < D.1 → (M.1 48 i).toInt = S.2 i
/-- how a state can be -/
def stO (D : dD) (S : aS) : Prop := S.1.1 ≤ 200 ∧ S.1.2.1 ≤ 12 ∧ S.1.2.2.1 < 256 ∧ S.1.2.2.2.1 + S.1.2.2.2.2.1 = pop8 S.1.2.2.1 ∧ 0 ≤ S.1.2.2.2.2.2 ∧ S.1.2.2.2.2.2 ≤ 57024 * (pop8 S.1.2.2.1 : Int) ∧ (∀ i, i < D.1 → -1 ≤ S.2 i ∧ S.2 i ≤ (S.1.1 : Int) + 40) ∧ S.1.2.2.1 < 2 ^ D.1
theorem xst.of {M M' : fmM} {D : dD} {S : aS} (h : xst M D S) (hk : ∀ k j, k = 47 ∨ k = 48 → M'.1 k j = M.1 k j) (h2 : M'.2 47 6 = M.2 47 6) : xst M' D S := by
  obtain ⟨a, b, c, d, e, f, g⟩ := h
  exact ⟨by rw [hk _ _ (Or.inl rfl)]; exact a, by rw [hk _ _ (Or.inl rfl)]; exact b, by rw [hk _ _ (Or.inl rfl)]; exact c, by rw [hk _ _ (Or.inl rfl)]; exact d, by rw [hk _ _ (Or.inl rfl)]; exact e, by rw [h2]; exact f, fun i hi => by rw [hk _ _ (Or.inr rfl)]; exact g i hi⟩
theorem has8b : ∀ w, w < 256 → ∀ k, k < 8 → (nI w >>> (nI k &&& 31) &&& 1) = bI (w.testBit k) := by decide +kernel
set_option maxRecDepth 20000 in
theorem c_xaliv {M : fmM} {Q : fmR → fmM → Prop} {D : dD} {S : aS} {i : Nat} (hs : xst M D S) (ho : stO D S) (hi8 : i < 8) (hq : Q (.inl (some (.int (bI (!S.1.2.2.1.testBit i))))) M) : pvGood Tx 0 qX6_isAlive [.ref 47, .int (nI i)] M Q := by
  refine pvGood_of (Nat.le_of_ble_eq_true rfl) ?_
  show pvEv Tx 0 qX6_isAlive 0 [some (.ref 47), some (.int (nI i))] [] M Q
  have e1 : M.1 47 1 = nI S.1.2.2.1 := nI_is hs.1 (by have := ho.2.2.1; omega)
  have eb := has8b S.1.2.2.1 ho.2.2.1 i hi8
  rw [← e1] at eb
  refine pv_aloadn (pc := 0) (n := 0) 0 rfl rfl (fm_dec dtX6_isAlive 0 rfl) ?_
  refine pv_getI (k := 47) (j := 1) (ci := 6) (pc := 1) pfl_X6_26 (by decide) rfl (by decide) (fm_dec dtX6_isAlive 1 rfl) ?_
  refine pv_iloadn (pc := 4) (n := 1) 1 rfl rfl (fm_dec dtX6_isAlive 2 rfl) ?_
  refine pv_ishr (pc := 5) (fm_dec dtX6_isAlive 3 rfl) ?_
  refine pv_iconst (pc := 6) (v := 1) (by decide) (fm_dec dtX6_isAlive 4 rfl) ?_
  refine pv_iand (pc := 7) (fm_dec dtX6_isAlive 5 rfl) ?_
  refine pv_if_ne (pc := 8) 15 (by decide) (fm_dec dtX6_isAlive 6 rfl) (fun hc8 => ?_) (fun hc8 => ?_)
  · refine pv_iconst (pc := 15) (v := 0) (by decide) (fm_dec dtX6_isAlive 9 rfl) ?_
    exact pv_zreturn (pc := 16) rfl (by first | exact Or.inr rfl | exact Or.inl rfl) (fm_dec dtX6_isAlive 10 rfl) (by have h9 := hq; cases ht : S.1.2.2.1.testBit i with | true => (rw [ht] at eb h9; first | exact h9 | exact absurd hc8 (by rw [eb]; decide) | exact absurd (show (M.1 47 1 >>> (nI i &&& 31) &&& 1) = 0 from hc8) (by rw [eb]; decide)) | false => (rw [ht] at eb h9; first | exact h9 | exact absurd hc8 (by rw [eb]; decide) | exact absurd eb hc8))
  · refine pv_iconst (pc := 11) (v := 1) (by decide) (fm_dec dtX6_isAlive 7 rfl) ?_
    refine pv_goto (pc := 12) 16 (by decide) (fm_dec dtX6_isAlive 8 rfl) ?_
    exact pv_zreturn (pc := 16) rfl (by first | exact Or.inr rfl | exact Or.inl rfl) (fm_dec dtX6_isAlive 10 rfl) (by have h9 := hq; cases ht : S.1.2.2.1.testBit i with | true => (rw [ht] at eb h9; first | exact h9 | exact absurd hc8 (by rw [eb]; decide) | exact absurd (show (M.1 47 1 >>> (nI i &&& 31) &&& 1) = 0 from hc8) (by rw [eb]; decide)) | false => (rw [ht] at eb h9; first | exact h9 | exact absurd hc8 (by rw [eb]; decide) | exact absurd eb hc8))
theorem dv_n {x z : Int32} {a b : Nat} (hx : x.toInt = (a : Int)) (hz : z.toInt = (b : Int)) (hb : 0 < b) (ha : a < 1000) : (x / z).toInt = ((a / b : Nat) : Int) := by
  rw [Int32.toInt_div, hx, hz, ← Int.ofNat_tdiv]
  refine Int.bmod_eq_of_le ?_ ?_
  · have : (0 : Int) ≤ ((a / b : Nat) : Int) := Int.natCast_nonneg _
    omega
  · have : a / b ≤ a := Nat.div_le_self a b
    omega
theorem mx_1 {x : Int32} {a : Nat} (hx : x.toInt = (a : Int)) : (pvMx true 1 x).toInt = ((max 1 a : Nat) : Int) := by
  have h1 : (1 : Int32).toInt = 1 := by decide
  show (if (1 : Int32).toInt ≤ x.toInt then x else 1).toInt = _
  split <;> omega
set_option maxRecDepth 20000 in
theorem c_xrenew {M : fmM} {Q : fmR → fmM → Prop} {D : dD} {i : Nat} (hD : dOk D) (hX : xdw 3 M D) (hi : i < D.1) (hq : ∀ r : Int32, r.toInt = ((max 1 ((D.2.1 i 3).toNat / (D.2.2.2.2 5).toNat) : Nat) : Int) → Q (.inl (some (.int r))) M) : pvGood Tx 1 qX8_renewHours [.ref 3, .int (nI i)] M Q := by
  refine pvGood_of (Nat.le_of_ble_eq_true rfl) ?_
  show pvEv Tx 1 qX8_renewHours 0 [some (.ref 3), some (.int (nI i)), none] [] M Q
  have d8 := hD.1
  have hi9 : (nI i).toInt = (i : Int) := nI_toInt (by omega)
  have b3 := (hD.2.2.1 i hi).2.2.2.1
  have b5 := hD.2.2.2.2.2.2.2
  have g5 : (M.1 3 14).toInt = D.2.2.2.2 5 := hX.1.2.2.2.2.2
  have g3 : (M.1 7 i).toInt = D.2.1 i 3 := hX.2.1 i hi 3 (by decide)
  have z0 : (0 : Int32).toInt = 0 := (by decide)
  refine pv_aloadn (pc := 0) (n := 0) 0 rfl rfl (fm_dec dtX8_renewHours 0 rfl) ?_
  refine pv_getI (k := 3) (j := 14) (ci := 8) (pc := 1) pfl_X8_58 (by decide) rfl (by decide) (fm_dec dtX8_renewHours 1 rfl) ?_
  refine pv_if_le (pc := 4) 14 (by decide) (fm_dec dtX8_renewHours 2 rfl) (fun hc4 => by exfalso; rw [sc_le] at hc4; omega) (fun _ => ?_)
  refine pv_aloadn (pc := 7) (n := 0) 0 rfl rfl (fm_dec dtX8_renewHours 3 rfl) ?_
  refine pv_getI (k := 3) (j := 14) (ci := 8) (pc := 8) pfl_X8_58 (by decide) rfl (by decide) (fm_dec dtX8_renewHours 4 rfl) ?_
  refine pv_goto (pc := 11) 15 (by decide) (fm_dec dtX8_renewHours 5 rfl) ?_
  refine pv_istoren (pc := 15) (n := 2) 2 rfl (by decide) rfl (fm_dec dtX8_renewHours 7 rfl) ?_
  dsimp only [List.set_cons_zero, List.set_cons_succ]
  refine pv_iconst (pc := 16) (v := 1) (by decide) (fm_dec dtX8_renewHours 8 rfl) ?_
  refine pv_aloadn (pc := 17) (n := 0) 0 rfl rfl (fm_dec dtX8_renewHours 9 rfl) ?_
  refine pv_getR (k := 3) (j := 3) (ci := 8) (pc := 18) 7 rfl (by decide) pfl_X8_21 (by decide) rfl (by decide) (fm_dec dtX8_renewHours 10 rfl) ?_
  refine pv_iloadn (pc := 21) (n := 1) 1 rfl rfl (fm_dec dtX8_renewHours 11 rfl) ?_
  refine pv_iald (k := 7) (n := 8) (pc := 22) (by decide) rfl rfl (ix_in hi9 (by omega)) (fm_dec dtX8_renewHours 12 rfl) ?_
  rw [i32_cl hi9]
  refine pv_iloadn (pc := 23) (n := 2) 2 rfl rfl (fm_dec dtX8_renewHours 13 rfl) ?_
  refine pv_idiv (pc := 24) (fun h9 => by have h8 := congrArg Int32.toInt h9; omega) (fm_dec dtX8_renewHours 14 rfl) ?_
  refine pv_mm (pc := 25) pmm_X8_121 (by decide) (Nat.le_of_ble_eq_true rfl) (fm_dec dtX8_renewHours 15 rfl) ?_
  exact pv_ireturn (pc := 28) rfl (fm_dec dtX8_renewHours 16 rfl) (hq _ (mx_1 (dv_n (by omega) (by omega) (by omega) (by omega))))
set_option maxRecDepth 20000 in
theorem c_xhours {M : fmM} {Q : fmR → fmM → Prop} {D : dD} {S : aS} {i : Nat} (hD : dOk D) (hX : xdw 3 M D) (hs : xst M D S) (hi : i < D.1) (hq : ∀ r : Int32, r.toInt = ((hoS D S i : Nat) : Int) → Q (.inl (some (.int r))) M) : pvGood Tx 2 qX0_hoursFor [.ref 32, .ref 47, .int (nI i)] M Q := by
  refine pvGood_of (Nat.le_of_ble_eq_true rfl) ?_
  show pvEv Tx 2 qX0_hoursFor 0 [some (.ref 32), some (.ref 47), some (.int (nI i))] [] M Q
  have d8 := hD.1
  have hi9 : (nI i).toInt = (i : Int) := nI_toInt (by omega)
  have g48 := hs.2.2.2.2.2.2 i hi
  have zm : (-1 : Int32).toInt = -1 := (by decide)
  have b3 := (hD.2.2.1 i hi).2.2.2.1
  have g3 : (M.1 7 i).toInt = D.2.1 i 3 := hX.2.1 i hi 3 (by decide)
  refine pv_aloadn (pc := 0) (n := 1) 1 rfl rfl (fm_dec dtX0_hoursFor 0 rfl) ?_
  refine pv_getR (k := 47) (j := 0) (ci := 6) (pc := 1) 48 rfl (by decide) pfl_X0_78 (by decide) rfl (by decide) (fm_dec dtX0_hoursFor 1 rfl) ?_
  refine pv_iloadn (pc := 4) (n := 2) 2 rfl rfl (fm_dec dtX0_hoursFor 2 rfl) ?_
  refine pv_iald (k := 48) (n := 8) (pc := 5) (by decide) rfl rfl (ix_in hi9 (by omega)) (fm_dec dtX0_hoursFor 3 rfl) ?_
  rw [i32_cl hi9]
  refine pv_iconst (pc := 6) (v := (-1)) (by decide) (fm_dec dtX0_hoursFor 4 rfl) ?_
  refine pv_icmp_ne (pc := 7) 22 (by decide) (fm_dec dtX0_hoursFor 5 rfl) (fun hc7 => ?_) (fun hc7 => ?_)
  · refine pv_aloadn (pc := 22) (n := 0) 0 rfl rfl (fm_dec dtX0_hoursFor 12 rfl) ?_
    refine pv_getR (k := 32) (j := 0) (ci := 0) (pc := 23) 3 rfl (by decide) pfl_X0_15 (by decide) rfl (by decide) (fm_dec dtX0_hoursFor 13 rfl) ?_
    refine pv_iloadn (pc := 26) (n := 2) 2 rfl rfl (fm_dec dtX0_hoursFor 14 rfl) ?_
    refine pv_invV1 (k := 3) (d' := 1) (pc := 27) pcv_X0_91 (by decide) rfl (Nat.le_of_ble_eq_true rfl) (by decide) (fm_dec dtX0_hoursFor 15 rfl) ?_
    refine c_xrenew hD hX hi (fun r27 h27 => ?_)
    refine pv_then1 ?_
    exact pv_ireturn (pc := 30) rfl (fm_dec dtX0_hoursFor 16 rfl) (hq r27 (by unfold hoS; rw [if_neg (by intro h9; apply hc7; exact i32_ext (by omega))]; exact h27))
  · refine pv_aloadn (pc := 10) (n := 0) 0 rfl rfl (fm_dec dtX0_hoursFor 6 rfl) ?_
    refine pv_getR (k := 32) (j := 0) (ci := 0) (pc := 11) 3 rfl (by decide) pfl_X0_15 (by decide) rfl (by decide) (fm_dec dtX0_hoursFor 7 rfl) ?_
    refine pv_getR (k := 3) (j := 3) (ci := 8) (pc := 14) 7 rfl (by decide) pfl_X0_88 (by decide) rfl (by decide) (fm_dec dtX0_hoursFor 8 rfl) ?_
    refine pv_iloadn (pc := 17) (n := 2) 2 rfl rfl (fm_dec dtX0_hoursFor 9 rfl) ?_
    refine pv_iald (k := 7) (n := 8) (pc := 18) (by decide) rfl rfl (ix_in hi9 (by omega)) (fm_dec dtX0_hoursFor 10 rfl) ?_
    rw [i32_cl hi9]
    refine pv_goto (pc := 19) 30 (by decide) (fm_dec dtX0_hoursFor 11 rfl) ?_
    exact pv_ireturn (pc := 30) rfl (fm_dec dtX0_hoursFor 16 rfl) (hq _ (by unfold hoS; rw [if_pos (by have h9 := congrArg Int32.toInt hc7; omega)]; omega))
set_option maxRecDepth 20000 in
theorem c_xcan {M : fmM} {Q : fmR → fmM → Prop} {D : dD} {S : aS} {i : Nat} (hD : dOk D) (hs : xst M D S) (ho : stO D S) (hi : i < D.1) (ht : ¬ S.1.2.2.1.testBit i = true → ¬ S.2 i = 0 → Q (.inl (some (.int 1))) M) (hf : (S.1.2.2.1.testBit i = true ∨ S.2 i = 0) → Q (.inl (some (.int 0))) M) : pvGood Tx 1 qX0_canBePut [.ref 32, .ref 47, .int (nI i)] M Q := by
  refine pvGood_of (Nat.le_of_ble_eq_true rfl) ?_
  show pvEv Tx 1 qX0_canBePut 0 [some (.ref 32), some (.ref 47), some (.int (nI i))] [] M Q
  have d8 := hD.1
  have hi9 : (nI i).toInt = (i : Int) := nI_toInt (by omega)
  have g48 := hs.2.2.2.2.2.2 i hi
  have z0 : (0 : Int32).toInt = 0 := (by decide)
  refine pv_aloadn (pc := 0) (n := 1) 1 rfl rfl (fm_dec dtX0_canBePut 0 rfl) ?_
  refine pv_iloadn (pc := 1) (n := 2) 2 rfl rfl (fm_dec dtX0_canBePut 1 rfl) ?_
  refine pv_invV1 (k := 47) (d' := 0) (pc := 2) pcv_X0_38 (by decide) rfl (Nat.le_of_ble_eq_true rfl) (by decide) (fm_dec dtX0_canBePut 2 rfl) ?_
  refine c_xaliv hs ho (by omega) ?_
  refine pv_then1 ?_
  have e2 : bI (!S.1.2.2.1.testBit i) = 0 ↔ S.1.2.2.1.testBit i = true := (by rw [bI_0]; cases S.1.2.2.1.testBit i <;> decide)
  refine pv_if_eq (pc := 5) 21 (by decide) (fm_dec dtX0_canBePut 3 rfl) (fun hc5 => ?_) (fun hc5 => ?_)
  · refine pv_iconst (pc := 21) (v := 0) (by decide) (fm_dec dtX0_canBePut 11 rfl) ?_
    exact pv_zreturn (pc := 22) rfl (by first | exact Or.inr rfl | exact Or.inl rfl) (fm_dec dtX0_canBePut 12 rfl) (hf (Or.inl (e2.mp hc5)))
  · refine pv_aloadn (pc := 8) (n := 1) 1 rfl rfl (fm_dec dtX0_canBePut 4 rfl) ?_
    refine pv_getR (k := 47) (j := 0) (ci := 6) (pc := 9) 48 rfl (by decide) pfl_X0_78 (by decide) rfl (by decide) (fm_dec dtX0_canBePut 5 rfl) ?_
    refine pv_iloadn (pc := 12) (n := 2) 2 rfl rfl (fm_dec dtX0_canBePut 6 rfl) ?_
    refine pv_iald (k := 48) (n := 8) (pc := 13) (by decide) rfl rfl (ix_in hi9 (by omega)) (fm_dec dtX0_canBePut 7 rfl) ?_
    rw [i32_cl hi9]
    refine pv_if_eq (pc := 14) 21 (by decide) (fm_dec dtX0_canBePut 8 rfl) (fun hc14 => ?_) (fun hc14 => ?_)
    · refine pv_iconst (pc := 21) (v := 0) (by decide) (fm_dec dtX0_canBePut 11 rfl) ?_
      exact pv_zreturn (pc := 22) rfl (by first | exact Or.inr rfl | exact Or.inl rfl) (fm_dec dtX0_canBePut 12 rfl) (hf (Or.inr (by have h9 := congrArg Int32.toInt hc14; omega)))
    · refine pv_iconst (pc := 17) (v := 1) (by decide) (fm_dec dtX0_canBePut 9 rfl) ?_
      refine pv_goto (pc := 18) 22 (by decide) (fm_dec dtX0_canBePut 10 rfl) ?_
      exact pv_zreturn (pc := 22) rfl (by first | exact Or.inr rfl | exact Or.inl rfl) (fm_dec dtX0_canBePut 12 rfl) (ht (fun h9 => hc5 (e2.mpr h9)) (fun h9 => hc14 (i32_ext (by omega))))
def puM2 (M : fmM) (i : Nat) (h : Int32) : fmM := fmI (fmI M 47 3 (M.1 47 3 - h)) 48 i 0
theorem pu_st {M : fmM} {D : dD} {S : aS} {i : Nat} {h : Int32} (hs : xst M D S) (hi : i < D.1) (hh : h.toInt = ((hoS D S i : Nat) : Int)) (hle : hoS D S i ≤ S.1.2.1) (h12 : S.1.2.1 ≤ 12) : xst (puM2 M i h) D ((S.1.1, S.1.2.1 - hoS D S i, S.1.2.2), fun j => if j = i then 0 else S.2 j) := by
  obtain ⟨a, b, c, d, e, f, g⟩ := hs
  refine ⟨a, b, ?_, d, e, f, fun j hj => ?_⟩
  · show (M.1 47 3 - h).toInt = _
    rw [sc_sub (by omega) (by omega)]
    show _ = ((S.1.2.1 - hoS D S i : Nat) : Int)
    omega
  · unfold puM2
    rw [fmI_at]
    by_cases e0 : j = i
    · subst e0
      rw [if_pos ⟨rfl, rfl⟩]
      show (0 : Int32).toInt = if j = j then 0 else S.2 j
      rw [if_pos rfl]
      decide
    · rw [if_neg (by omega), fmI_k _ _ (by decide)]
      show _ = if j = i then 0 else S.2 j
      rw [if_neg e0]
      exact g j hj
set_option maxRecDepth 20000 in
theorem c_xput {M : fmM} {Q : fmR → fmM → Prop} {D : dD} {S : aS} {i : Nat} (hD : dOk D) (hX : xdw 3 M D) (hs : xst M D S) (ho : stO D S) (hi : i < D.1) (hn : puS D S i = none → Q (.inl (some (.int 0))) M) (hq : ∀ (S' : aS) (h : Int32), puS D S i = some S' → xst (puM2 M i h) D S' → Q (.inl (some (.int 1))) (puM2 M i h)) : pvGood Tx 3 qX0_putPiece [.ref 32, .ref 47, .int (nI i)] M Q := by
  refine pvGood_of (Nat.le_of_ble_eq_true rfl) ?_
  show pvEv Tx 3 qX0_putPiece 0 [some (.ref 32), some (.ref 47), some (.int (nI i)), none] [] M Q
  have d8 := hD.1
  have hi9 : (nI i).toInt = (i : Int) := nI_toInt (by omega)
  have h12 := ho.2.1
  have g3 := hs.2.2.1
  refine pv_aloadn (pc := 0) (n := 0) 0 rfl rfl (fm_dec dtX0_putPiece 0 rfl) ?_
  refine pv_aloadn (pc := 1) (n := 1) 1 rfl rfl (fm_dec dtX0_putPiece 1 rfl) ?_
  refine pv_iloadn (pc := 2) (n := 2) 2 rfl rfl (fm_dec dtX0_putPiece 2 rfl) ?_
  refine pv_invV2 (k := 32) (d' := 2) (pc := 3) pcv_X0_113 (by decide) rfl (Nat.le_of_ble_eq_true rfl) (by decide) (fm_dec dtX0_putPiece 3 rfl) ?_
  refine c_xhours hD hX hs hi (fun r3 h3 => ?_)
  refine pv_then1 ?_
  refine pv_istoren (pc := 6) (n := 3) 3 rfl (by decide) rfl (fm_dec dtX0_putPiece 4 rfl) ?_
  dsimp only [List.set_cons_zero, List.set_cons_succ]
  refine pv_aloadn (pc := 7) (n := 0) 0 rfl rfl (fm_dec dtX0_putPiece 5 rfl) ?_
  refine pv_aloadn (pc := 8) (n := 1) 1 rfl rfl (fm_dec dtX0_putPiece 6 rfl) ?_
  refine pv_iloadn (pc := 9) (n := 2) 2 rfl rfl (fm_dec dtX0_putPiece 7 rfl) ?_
  refine pv_invV2 (k := 32) (d' := 1) (pc := 10) pcv_X0_95 (by decide) rfl (Nat.le_of_ble_eq_true rfl) (by decide) (fm_dec dtX0_putPiece 8 rfl) ?_
  refine c_xcan hD hs ho hi (fun h10a h10b => ?_) (fun h10 => ?_)
  · refine pv_then1 ?_
    refine pv_if_eq (pc := 13) 24 (by decide) (fm_dec dtX0_putPiece 9 rfl) (fun hc13 => by exfalso; revert hc13; decide) (fun _ => ?_)
    refine pv_iloadn (pc := 16) (n := 3) 3 rfl rfl (fm_dec dtX0_putPiece 10 rfl) ?_
    refine pv_aloadn (pc := 17) (n := 1) 1 rfl rfl (fm_dec dtX0_putPiece 11 rfl) ?_
    refine pv_getI (k := 47) (j := 3) (ci := 6) (pc := 18) pfl_X0_116 (by decide) rfl (by decide) (fm_dec dtX0_putPiece 12 rfl) ?_
    refine pv_icmp_le (pc := 21) 26 (by decide) (fm_dec dtX0_putPiece 13 rfl) (fun hc21 => ?_) (fun hc21 => ?_)
    · refine pv_aloadn (pc := 26) (n := 1) 1 rfl rfl (fm_dec dtX0_putPiece 16 rfl) ?_
      refine pv_dup (pc := 27) rfl (fm_dec dtX0_putPiece 17 rfl) ?_
      refine pv_getI (k := 47) (j := 3) (ci := 6) (pc := 28) pfl_X0_116 (by decide) rfl (by decide) (fm_dec dtX0_putPiece 18 rfl) ?_
      refine pv_iloadn (pc := 31) (n := 3) 3 rfl rfl (fm_dec dtX0_putPiece 19 rfl) ?_
      refine pv_isub (pc := 32) (fm_dec dtX0_putPiece 20 rfl) ?_
      refine pv_putI (k := 47) (j := 3) (ci := 6) (pc := 33) pfl_X0_116 (by decide) rfl (by decide) (fm_dec dtX0_putPiece 21 rfl) ?_
      refine pv_aloadn (pc := 36) (n := 1) 1 rfl rfl (fm_dec dtX0_putPiece 22 rfl) ?_
      refine pv_getR (k := 47) (j := 0) (ci := 6) (pc := 37) 48 rfl (by decide) pfl_X0_78 (by decide) rfl (by decide) (fm_dec dtX0_putPiece 23 rfl) ?_
      refine pv_iloadn (pc := 40) (n := 2) 2 rfl rfl (fm_dec dtX0_putPiece 24 rfl) ?_
      refine pv_iconst (pc := 41) (v := 0) (by decide) (fm_dec dtX0_putPiece 25 rfl) ?_
      refine pv_iast (k := 48) (n := 8) (pc := 42) (by decide) rfl rfl (ix_in hi9 (by omega)) (fm_dec dtX0_putPiece 26 rfl) ?_
      rw [i32_cl hi9]
      refine pv_iconst (pc := 43) (v := 1) (by decide) (fm_dec dtX0_putPiece 27 rfl) ?_
      exact pv_zreturn (pc := 44) rfl (by first | exact Or.inr rfl | exact Or.inl rfl) (fm_dec dtX0_putPiece 28 rfl) (hq _ r3 (if_neg (by rw [sc_le] at hc21; intro h9; rcases h9 with h | h | h; exact h10a h; exact h10b h; omega)) (pu_st hs hi h3 (by rw [sc_le] at hc21; omega) h12))
    · refine pv_iconst (pc := 24) (v := 0) (by decide) (fm_dec dtX0_putPiece 14 rfl) ?_
      exact pv_zreturn (pc := 25) rfl (by first | exact Or.inr rfl | exact Or.inl rfl) (fm_dec dtX0_putPiece 15 rfl) (hn (if_pos (Or.inr (Or.inr (by rw [sc_le] at hc21; omega)))))
  · refine pv_then1 ?_
    refine pv_if_eq (pc := 13) 24 (by decide) (fm_dec dtX0_putPiece 9 rfl) (fun _ => ?_) (fun hc13 => by exfalso; revert hc13; decide)
    refine pv_iconst (pc := 24) (v := 0) (by decide) (fm_dec dtX0_putPiece 14 rfl) ?_
    exact pv_zreturn (pc := 25) rfl (by first | exact Or.inr rfl | exact Or.inl rfl) (fm_dec dtX0_putPiece 15 rfl) (hn (if_pos (by rcases h10 with h | h; exact Or.inl h; exact Or.inr (Or.inl h))))
set_option maxRecDepth 20000 in
theorem xcg_loop {Q : fmR → fmM → Prop} {M : fmM} {li a b : Int32} {D : dD} (hD : dOk D) (hX : xdw 3 M D) : ∀ (m : Nat) (n : Nat) (i : Int32), i.toInt = (n : Int) → n ≤ D.2.2.1 → D.2.2.1 - n = m → Q (.inl (some (.int (nI (cgA D li.toInt a.toInt b.toInt))))) M → pvEv Tx 0 qX8_changesBetween 6 [some (.ref 3), some (.int li), some (.int a), some (.int b), some (.int (nI (cgS D li.toInt a.toInt b.toInt n))), some (.int i)] [] M Q := by
  intro m
  induction m using Nat.strongRecOn with
  | _ m ih =>
    intro n i hi hnD hm hq
    have c10 : (M.1 3 10).toInt = (D.2.2.1 : Int) := hX.1.2.1
    have d24 := hD.2.1
    refine pv_iload (pc := 6) (i := 5) rfl (fm_dec dtX8_changesBetween 4 rfl) ?_
    refine pv_aloadn (pc := 8) (n := 0) 0 rfl rfl (fm_dec dtX8_changesBetween 5 rfl) ?_
    refine pv_getI (k := 3) (j := 10) (ci := 8) (pc := 9) pfl_X8_46 (by decide) rfl (by decide) (fm_dec dtX8_changesBetween 6 rfl) ?_
    refine pv_icmp_ge (pc := 12) 57 (by decide) (fm_dec dtX8_changesBetween 7 rfl) (fun hc12 => ?_) (fun hc12 => ?_)
    · refine pv_iload (pc := 57) (i := 4) rfl (fm_dec dtX8_changesBetween 29 rfl) ?_
      exact pv_ireturn (pc := 59) rfl (fm_dec dtX8_changesBetween 30 rfl) (by have e9 : n = D.2.2.1 := (by rw [sc_le] at hc12; omega); subst e9; exact hq)
    · have hn : n < D.2.2.1 := (by rw [sc_le] at hc12; omega)
      have f0 : (M.1 10 n).toInt = D.2.2.2.1 n 0 := hX.2.2 n hn 0 (by decide)
      have f2 : (M.1 12 n).toInt = D.2.2.2.1 n 2 := hX.2.2 n hn 2 (by decide)
      refine pv_aloadn (pc := 15) (n := 0) 0 rfl rfl (fm_dec dtX8_changesBetween 8 rfl) ?_
      refine pv_getR (k := 3) (j := 6) (ci := 8) (pc := 16) 10 rfl (by decide) pfl_X8_30 (by decide) rfl (by decide) (fm_dec dtX8_changesBetween 9 rfl) ?_
      refine pv_iload (pc := 19) (i := 5) rfl (fm_dec dtX8_changesBetween 10 rfl) ?_
      refine pv_iald (k := 10) (n := 24) (pc := 21) (by decide) rfl rfl (ix_in hi (by omega)) (fm_dec dtX8_changesBetween 11 rfl) ?_
      rw [i32_cl hi]
      refine pv_iloadn (pc := 22) (n := 1) 1 rfl rfl (fm_dec dtX8_changesBetween 12 rfl) ?_
      refine pv_icmp_ne (pc := 23) 51 (by decide) (fm_dec dtX8_changesBetween 13 rfl) (fun hc23 => ?_) (fun hc23 => ?_)
      · refine pv_iincc (pc := 51) 5 1 (by decide) rfl (by decide) rfl (fm_dec dtX8_changesBetween 27 rfl) ?_
        dsimp only [List.set_cons_zero, List.set_cons_succ]
        refine pv_goto (pc := 54) 6 (by decide) (fm_dec dtX8_changesBetween 28 rfl) ?_
        have e9 : cgS D li.toInt a.toInt b.toInt (n + 1) = cgS D li.toInt a.toInt b.toInt n := if_neg (by intro h9; apply hc23; apply i32_ext; omega)
        rw [← e9]
        exact ih (D.2.2.1 - (n + 1)) (by omega) (n + 1) (i + 1) (i32_p1 hi (by omega)) (by omega) rfl hq
      · refine pv_aloadn (pc := 26) (n := 0) 0 rfl rfl (fm_dec dtX8_changesBetween 14 rfl) ?_
        refine pv_getR (k := 3) (j := 8) (ci := 8) (pc := 27) 12 rfl (by decide) pfl_X8_36 (by decide) rfl (by decide) (fm_dec dtX8_changesBetween 15 rfl) ?_
        refine pv_iload (pc := 30) (i := 5) rfl (fm_dec dtX8_changesBetween 16 rfl) ?_
        refine pv_iald (k := 12) (n := 24) (pc := 32) (by decide) rfl rfl (ix_in hi (by omega)) (fm_dec dtX8_changesBetween 17 rfl) ?_
        rw [i32_cl hi]
        refine pv_iloadn (pc := 33) (n := 2) 2 rfl rfl (fm_dec dtX8_changesBetween 18 rfl) ?_
        refine pv_icmp_le (pc := 34) 51 (by decide) (fm_dec dtX8_changesBetween 19 rfl) (fun hc34 => ?_) (fun hc34 => ?_)
        · refine pv_iincc (pc := 51) 5 1 (by decide) rfl (by decide) rfl (fm_dec dtX8_changesBetween 27 rfl) ?_
          dsimp only [List.set_cons_zero, List.set_cons_succ]
          refine pv_goto (pc := 54) 6 (by decide) (fm_dec dtX8_changesBetween 28 rfl) ?_
          have e9 : cgS D li.toInt a.toInt b.toInt (n + 1) = cgS D li.toInt a.toInt b.toInt n := if_neg (by intro h9; rw [sc_le] at hc34; omega)
          rw [← e9]
          exact ih (D.2.2.1 - (n + 1)) (by omega) (n + 1) (i + 1) (i32_p1 hi (by omega)) (by omega) rfl hq
        · refine pv_aloadn (pc := 37) (n := 0) 0 rfl rfl (fm_dec dtX8_changesBetween 20 rfl) ?_
          refine pv_getR (k := 3) (j := 8) (ci := 8) (pc := 38) 12 rfl (by decide) pfl_X8_36 (by decide) rfl (by decide) (fm_dec dtX8_changesBetween 21 rfl) ?_
          refine pv_iload (pc := 41) (i := 5) rfl (fm_dec dtX8_changesBetween 22 rfl) ?_
          refine pv_iald (k := 12) (n := 24) (pc := 43) (by decide) rfl rfl (ix_in hi (by omega)) (fm_dec dtX8_changesBetween 23 rfl) ?_
          rw [i32_cl hi]
          refine pv_iloadn (pc := 44) (n := 3) 3 rfl rfl (fm_dec dtX8_changesBetween 24 rfl) ?_
          refine pv_icmp_gt (pc := 45) 51 (by decide) (fm_dec dtX8_changesBetween 25 rfl) (fun hc45 => ?_) (fun hc45 => ?_)
          · refine pv_iincc (pc := 51) 5 1 (by decide) rfl (by decide) rfl (fm_dec dtX8_changesBetween 27 rfl) ?_
            dsimp only [List.set_cons_zero, List.set_cons_succ]
            refine pv_goto (pc := 54) 6 (by decide) (fm_dec dtX8_changesBetween 28 rfl) ?_
            have e9 : cgS D li.toInt a.toInt b.toInt (n + 1) = cgS D li.toInt a.toInt b.toInt n := if_neg (by intro h9; rw [sc_lt] at hc45; omega)
            rw [← e9]
            exact ih (D.2.2.1 - (n + 1)) (by omega) (n + 1) (i + 1) (i32_p1 hi (by omega)) (by omega) rfl hq
          · refine pv_iincc (pc := 48) 4 1 (by decide) rfl (by decide) rfl (fm_dec dtX8_changesBetween 26 rfl) ?_
            dsimp only [List.set_cons_zero, List.set_cons_succ]
            refine pv_iincc (pc := 51) 5 1 (by decide) rfl (by decide) rfl (fm_dec dtX8_changesBetween 27 rfl) ?_
            dsimp only [List.set_cons_zero, List.set_cons_succ]
            refine pv_goto (pc := 54) 6 (by decide) (fm_dec dtX8_changesBetween 28 rfl) ?_
            have e9 : cgS D li.toInt a.toInt b.toInt (n + 1) = cgS D li.toInt a.toInt b.toInt n + 1 := if_pos ⟨by rw [← f0, hc23], by rw [sc_le] at hc34; omega, by rw [sc_lt] at hc45; omega⟩
            rw [nI_succ1, ← e9]
            exact ih (D.2.2.1 - (n + 1)) (by omega) (n + 1) (i + 1) (i32_p1 hi (by omega)) (by omega) rfl hq
set_option maxRecDepth 20000 in
theorem c_xcg {M : fmM} {Q : fmR → fmM → Prop} {li a b : Int32} {D : dD} (hD : dOk D) (hX : xdw 3 M D) (hq : Q (.inl (some (.int (nI (cgA D li.toInt a.toInt b.toInt))))) M) : pvGood Tx 0 qX8_changesBetween [.ref 3, .int li, .int a, .int b] M Q := by
  refine pvGood_of (Nat.le_of_ble_eq_true rfl) ?_
  show pvEv Tx 0 qX8_changesBetween 0 [some (.ref 3), some (.int li), some (.int a), some (.int b), none, none] [] M Q
  refine pv_iconst (pc := 0) (v := 0) (by decide) (fm_dec dtX8_changesBetween 0 rfl) ?_
  refine pv_istore (pc := 1) (i := 4) (by decide) rfl (fm_dec dtX8_changesBetween 1 rfl) ?_
  dsimp only [List.set_cons_zero, List.set_cons_succ]
  refine pv_iconst (pc := 3) (v := 0) (by decide) (fm_dec dtX8_changesBetween 2 rfl) ?_
  refine pv_istore (pc := 4) (i := 5) (by decide) rfl (fm_dec dtX8_changesBetween 3 rfl) ?_
  dsimp only [List.set_cons_zero, List.set_cons_succ]
  exact xcg_loop hD hX D.2.2.1 0 0 (by decide) (by omega) (by omega) hq
set_option maxRecDepth 20000 in
theorem c_xyrG {M : fmM} {Q : fmR → fmM → Prop} {D : dD} {i w : Nat} {z : Int32} (hD : dOk D) (hX : xdw 3 M D) (hi : i < D.1) (hz : (M.1 47 2 + z).toInt = (w : Int)) (hw : w ≤ 300) (hq : Q (.inl (some (.int (nI ((D.2.1 i 0).toNat + w / 52))))) M) : pvGood Tx 0 qX0_yearsWhen [.ref 32, .ref 47, .int (nI i), .int z] M Q := by
  refine pvGood_of (Nat.le_of_ble_eq_true rfl) ?_
  show pvEv Tx 0 qX0_yearsWhen 0 [some (.ref 32), some (.ref 47), some (.int (nI i)), some (.int z)] [] M Q
  have d8 := hD.1
  have hi9 : (nI i).toInt = (i : Int) := nI_toInt (by omega)
  have b0 := (hD.2.2.1 i hi).1
  have g0 : (M.1 4 i).toInt = D.2.1 i 0 := hX.2.1 i hi 0 (by decide)
  have z52 : (52 : Int32).toInt = ((52 : Nat) : Int) := (by decide)
  refine pv_aloadn (pc := 0) (n := 0) 0 rfl rfl (fm_dec dtX0_yearsWhen 0 rfl) ?_
  refine pv_getR (k := 32) (j := 0) (ci := 0) (pc := 1) 3 rfl (by decide) pfl_X0_15 (by decide) rfl (by decide) (fm_dec dtX0_yearsWhen 1 rfl) ?_
  refine pv_getR (k := 3) (j := 0) (ci := 8) (pc := 4) 4 rfl (by decide) pfl_X0_23 (by decide) rfl (by decide) (fm_dec dtX0_yearsWhen 2 rfl) ?_
  refine pv_iloadn (pc := 7) (n := 2) 2 rfl rfl (fm_dec dtX0_yearsWhen 3 rfl) ?_
  refine pv_iald (k := 4) (n := 8) (pc := 8) (by decide) rfl rfl (ix_in hi9 (by omega)) (fm_dec dtX0_yearsWhen 4 rfl) ?_
  rw [i32_cl hi9]
  refine pv_aloadn (pc := 9) (n := 1) 1 rfl rfl (fm_dec dtX0_yearsWhen 5 rfl) ?_
  refine pv_getI (k := 47) (j := 2) (ci := 6) (pc := 10) pfl_X0_29 (by decide) rfl (by decide) (fm_dec dtX0_yearsWhen 6 rfl) ?_
  refine pv_iloadn (pc := 13) (n := 3) 3 rfl rfl (fm_dec dtX0_yearsWhen 7 rfl) ?_
  refine pv_iadd (pc := 14) (fm_dec dtX0_yearsWhen 8 rfl) ?_
  refine pv_bipush (pc := 15) (v := 52) (by decide) (fm_dec dtX0_yearsWhen 9 rfl) ?_
  refine pv_idiv (pc := 17) (by decide) (fm_dec dtX0_yearsWhen 10 rfl) ?_
  refine pv_iadd (pc := 18) (fm_dec dtX0_yearsWhen 11 rfl) ?_
  exact pv_ireturn (pc := 19) rfl (fm_dec dtX0_yearsWhen 12 rfl) (by have e8 := dv_n hz z52 (by decide) (by omega); have h8 : w / 52 ≤ w := Nat.div_le_self _ _; have e7 : (M.1 4 i + (M.1 47 2 + z) / 52).toInt = (((D.2.1 i 0).toNat + w / 52 : Nat) : Int) := (by rw [sc_add (by omega) (by omega)]; omega); rw [nI_is e7 (by omega)]; exact hq)
theorem wk_z0 {M : fmM} {D : dD} {S : aS} (hs : xst M D S) (ho : stO D S) : (M.1 47 2 + 0).toInt = (S.1.1 : Int) := by
  have w2 := ho.1
  have g2 := hs.2.1
  have z0 : (0 : Int32).toInt = 0 := by decide
  rw [sc_add (by omega) (by omega)]
  omega
theorem c_xyr {M : fmM} {Q : fmR → fmM → Prop} {D : dD} {S : aS} {i : Nat} (hD : dOk D) (hX : xdw 3 M D) (hs : xst M D S) (ho : stO D S) (hi : i < D.1) (hq : Q (.inl (some (.int (nI ((D.2.1 i 0).toNat + S.1.1 / 52))))) M) : pvGood Tx 0 qX0_yearsWhen [.ref 32, .ref 47, .int (nI i), .int 0] M Q := c_xyrG hD hX hi (wk_z0 hs ho) (by have := ho.1; omega) hq
set_option maxRecDepth 20000 in
theorem c_xsd {M : fmM} {Q : fmR → fmM → Prop} {D : dD} {S : aS} {i : Nat} (hD : dOk D) (hX : xdw 3 M D) (hs : xst M D S) (ho : stO D S) (hi : i < D.1) (hq : Q (.inl (some (.int (nI (sdA D S.1.2.2.1 i))))) M) : pvGood Tx 1 qX0_signerDead [.ref 32, .ref 47, .int (nI i)] M Q := by
  refine pvGood_of (Nat.le_of_ble_eq_true rfl) ?_
  show pvEv Tx 1 qX0_signerDead 0 [some (.ref 32), some (.ref 47), some (.int (nI i)), none] [] M Q
  have d8 := hD.1
  have hi9 : (nI i).toInt = (i : Int) := nI_toInt (by omega)
  have g5 : (M.1 9 i).toInt = chB D i := hX.2.1 i hi 5 (by decide)
  have z0 : (0 : Int32).toInt = 0 := (by decide)
  have ec : D.2.1 i 5 = chB D i := rfl
  refine pv_aloadn (pc := 0) (n := 0) 0 rfl rfl (fm_dec dtX0_signerDead 0 rfl) ?_
  refine pv_getR (k := 32) (j := 0) (ci := 0) (pc := 1) 3 rfl (by decide) pfl_X0_15 (by decide) rfl (by decide) (fm_dec dtX0_signerDead 1 rfl) ?_
  refine pv_getR (k := 3) (j := 5) (ci := 8) (pc := 4) 9 rfl (by decide) pfl_X0_35 (by decide) rfl (by decide) (fm_dec dtX0_signerDead 2 rfl) ?_
  refine pv_iloadn (pc := 7) (n := 2) 2 rfl rfl (fm_dec dtX0_signerDead 3 rfl) ?_
  refine pv_iald (k := 9) (n := 8) (pc := 8) (by decide) rfl rfl (ix_in hi9 (by omega)) (fm_dec dtX0_signerDead 4 rfl) ?_
  rw [i32_cl hi9]
  refine pv_istoren (pc := 9) (n := 3) 3 rfl (by decide) rfl (fm_dec dtX0_signerDead 5 rfl) ?_
  dsimp only [List.set_cons_zero, List.set_cons_succ]
  refine pv_iloadn (pc := 10) (n := 3) 3 rfl rfl (fm_dec dtX0_signerDead 6 rfl) ?_
  refine pv_if_lt (pc := 11) 26 (by decide) (fm_dec dtX0_signerDead 7 rfl) (fun hc11 => ?_) (fun hc11 => ?_)
  · refine pv_iconst (pc := 26) (v := 0) (by decide) (fm_dec dtX0_signerDead 14 rfl) ?_
    exact pv_ireturn (pc := 27) rfl (fm_dec dtX0_signerDead 15 rfl) (by have h9 := hq; unfold sdA at h9; rw [if_pos (by rw [sc_lt] at hc11; omega)] at h9; exact h9)
  · obtain ⟨k, hk, hk8, hkb, hkx⟩ := by_d hD hi g5 (by rw [sc_lt] at hc11; omega)
    rw [hkx]
    refine pv_aloadn (pc := 14) (n := 1) 1 rfl rfl (fm_dec dtX0_signerDead 8 rfl) ?_
    refine pv_iloadn (pc := 15) (n := 3) 3 rfl rfl (fm_dec dtX0_signerDead 9 rfl) ?_
    refine pv_invV1 (k := 47) (d' := 0) (pc := 16) pcv_X0_38 (by decide) rfl (Nat.le_of_ble_eq_true rfl) (by decide) (fm_dec dtX0_signerDead 10 rfl) ?_
    refine c_xaliv hs ho hk8 ?_
    refine pv_then1 ?_
    refine pv_if_ne (pc := 19) 26 (by decide) (fm_dec dtX0_signerDead 11 rfl) (fun hc19 => ?_) (fun hc19 => ?_)
    · refine pv_iconst (pc := 26) (v := 0) (by decide) (fm_dec dtX0_signerDead 14 rfl) ?_
      exact pv_ireturn (pc := 27) rfl (fm_dec dtX0_signerDead 15 rfl) (by have h9 := hq; unfold sdA at h9; rw [if_neg (by omega), ec, hkb, Int.toNat_natCast] at h9; cases ht : S.1.2.2.1.testBit k with | true => exact absurd (show bI (!S.1.2.2.1.testBit k) = 0 by rw [ht]; decide) hc19 | false => (rw [ht] at h9; exact h9))
    · refine pv_iconst (pc := 22) (v := 1) (by decide) (fm_dec dtX0_signerDead 12 rfl) ?_
      refine pv_goto (pc := 23) 27 (by decide) (fm_dec dtX0_signerDead 13 rfl) ?_
      exact pv_ireturn (pc := 27) rfl (fm_dec dtX0_signerDead 15 rfl) (by have h9 := hq; unfold sdA at h9; rw [if_neg (by omega), ec, hkb, Int.toNat_natCast] at h9; cases ht : S.1.2.2.1.testBit k with | true => (rw [ht] at h9; exact h9) | false => (rw [ht] at hc19; exact absurd hc19 (by decide)))
theorem mxt {x z : Int32} : (pvMx true x z).toInt = max x.toInt z.toInt := by
  show (if x.toInt ≤ z.toInt then z else x).toInt = _
  split <;> omega
theorem mxf {x z : Int32} : (pvMx false x z).toInt = min x.toInt z.toInt := by
  show (if x.toInt ≤ z.toInt then x else z).toInt = _
  split <;> omega
theorem outV_b {x : Int32} : 0 ≤ (outV x).toInt ∧ (outV x).toInt ≤ 64 := by
  unfold outV
  have z0 : (0 : Int32).toInt = 0 := by decide
  have z64 : (64 : Int32).toInt = 64 := by decide
  rw [mxt, mxf, z0, z64]
  omega
theorem wrS_b {D : dD} {cs : tC} {dead w i age : Nat} : 0 ≤ wrS D cs dead w i age ∧ wrS D cs dead w i age ≤ 64 := outV_b
theorem cg_24 {D : dD} {li a b : Int} (hD : dOk D) : cgA D li a b ≤ 24 := Nat.le_trans (cg_le _) hD.2.1
set_option maxRecDepth 20000 in
theorem c_xwrgG {M : fmM} {Q : fmR → fmM → Prop} {D : dD} {cs : tC} {S : aS} {i a w : Nat} {z : Int32} (hD : dOk D) (hX : xdw 3 M D) (hL : lwX M cs) (hs : xst M D S) (ho : stO D S) (hi : i < D.1) (hz : (M.1 47 2 + z).toInt = (w : Int)) (hw : w ≤ 300) (ha : a ≤ 400) (hq : ∀ (M' : fmM) (r : Int32), (∀ k j, k ≠ 26 → M'.1 k j = M.1 k j) → M'.2 = M.2 → r.toInt = wrS D cs S.1.2.2.1 w i a → Q (.inl (some (.int r))) M') : pvGood Tx 2 qX0_wrongWhen [.ref 32, .ref 47, .int (nI i), .int z, .int (nI a)] M Q := by
  refine pvGood_of (Nat.le_of_ble_eq_true rfl) ?_
  show pvEv Tx 2 qX0_wrongWhen 0 [some (.ref 32), some (.ref 47), some (.int (nI i)), some (.int z), some (.int (nI a)), none, none] [] M Q
  have d8 := hD.1
  have hi9 : (nI i).toInt = (i : Int) := nI_toInt (by omega)
  have ha9 : (nI a).toInt = (a : Int) := nI_toInt (by omega)
  have ea : (M.1 47 2 + z - nI a).toInt = (w : Int) - a := (by rw [sc_sub (by omega) (by omega)]; omega)
  have b2 := (hD.2.2.1 i hi).2.2.1
  have g2 : M.1 6 i = nI (D.2.1 i 2).toNat := nI_is (by have h9 : (M.1 6 i).toInt = D.2.1 i 2 := hX.2.1 i hi 2 (by decide); omega) (by omega)
  refine pv_aloadn (pc := 0) (n := 1) 1 rfl rfl (fm_dec dtX0_wrongWhen 0 rfl) ?_
  refine pv_getI (k := 47) (j := 2) (ci := 6) (pc := 1) pfl_X0_29 (by decide) rfl (by decide) (fm_dec dtX0_wrongWhen 1 rfl) ?_
  refine pv_iloadn (pc := 4) (n := 3) 3 rfl rfl (fm_dec dtX0_wrongWhen 2 rfl) ?_
  refine pv_iadd (pc := 5) (fm_dec dtX0_wrongWhen 3 rfl) ?_
  refine pv_istore (pc := 6) (i := 5) (by decide) rfl (fm_dec dtX0_wrongWhen 4 rfl) ?_
  dsimp only [List.set_cons_zero, List.set_cons_succ]
  refine pv_aloadn (pc := 8) (n := 0) 0 rfl rfl (fm_dec dtX0_wrongWhen 5 rfl) ?_
  refine pv_getR (k := 32) (j := 0) (ci := 0) (pc := 9) 3 rfl (by decide) pfl_X0_15 (by decide) rfl (by decide) (fm_dec dtX0_wrongWhen 6 rfl) ?_
  refine pv_iloadn (pc := 12) (n := 2) 2 rfl rfl (fm_dec dtX0_wrongWhen 7 rfl) ?_
  refine pv_iload (pc := 13) (i := 5) rfl (fm_dec dtX0_wrongWhen 8 rfl) ?_
  refine pv_iload (pc := 15) (i := 4) rfl (fm_dec dtX0_wrongWhen 9 rfl) ?_
  refine pv_isub (pc := 17) (fm_dec dtX0_wrongWhen 10 rfl) ?_
  refine pv_iload (pc := 18) (i := 5) rfl (fm_dec dtX0_wrongWhen 11 rfl) ?_
  refine pv_invV3 (k := 3) (d' := 0) (pc := 20) pcv_X0_42 (by decide) rfl (Nat.le_of_ble_eq_true rfl) (by decide) (fm_dec dtX0_wrongWhen 12 rfl) ?_
  refine c_xcg hD hX ?_
  refine pv_then1 ?_
  refine pv_istore (pc := 23) (i := 6) (by decide) rfl (fm_dec dtX0_wrongWhen 13 rfl) ?_
  dsimp only [List.set_cons_zero, List.set_cons_succ]
  refine pv_aloadn (pc := 25) (n := 0) 0 rfl rfl (fm_dec dtX0_wrongWhen 14 rfl) ?_
  refine pv_getR (k := 32) (j := 1) (ci := 0) (pc := 26) 23 rfl (by decide) pfl_X0_19 (by decide) rfl (by decide) (fm_dec dtX0_wrongWhen 15 rfl) ?_
  refine pv_iload (pc := 29) (i := 4) rfl (fm_dec dtX0_wrongWhen 16 rfl) ?_
  refine pv_aloadn (pc := 31) (n := 0) 0 rfl rfl (fm_dec dtX0_wrongWhen 17 rfl) ?_
  refine pv_aloadn (pc := 32) (n := 1) 1 rfl rfl (fm_dec dtX0_wrongWhen 18 rfl) ?_
  refine pv_iloadn (pc := 33) (n := 2) 2 rfl rfl (fm_dec dtX0_wrongWhen 19 rfl) ?_
  refine pv_iloadn (pc := 34) (n := 3) 3 rfl rfl (fm_dec dtX0_wrongWhen 20 rfl) ?_
  refine pv_invV3 (k := 32) (d' := 0) (pc := 35) pcv_X0_46 (by decide) rfl (Nat.le_of_ble_eq_true rfl) (by decide) (fm_dec dtX0_wrongWhen 21 rfl) ?_
  refine c_xyrG hD hX hi hz hw ?_
  refine pv_then1 ?_
  refine pv_aloadn (pc := 38) (n := 0) 0 rfl rfl (fm_dec dtX0_wrongWhen 22 rfl) ?_
  refine pv_getR (k := 32) (j := 0) (ci := 0) (pc := 39) 3 rfl (by decide) pfl_X0_15 (by decide) rfl (by decide) (fm_dec dtX0_wrongWhen 23 rfl) ?_
  refine pv_getR (k := 3) (j := 2) (ci := 8) (pc := 42) 6 rfl (by decide) pfl_X0_50 (by decide) rfl (by decide) (fm_dec dtX0_wrongWhen 24 rfl) ?_
  refine pv_iloadn (pc := 45) (n := 2) 2 rfl rfl (fm_dec dtX0_wrongWhen 25 rfl) ?_
  refine pv_iald (k := 6) (n := 8) (pc := 46) (by decide) rfl rfl (ix_in hi9 (by omega)) (fm_dec dtX0_wrongWhen 26 rfl) ?_
  rw [i32_cl hi9, g2]
  refine pv_aloadn (pc := 47) (n := 0) 0 rfl rfl (fm_dec dtX0_wrongWhen 27 rfl) ?_
  refine pv_aloadn (pc := 48) (n := 1) 1 rfl rfl (fm_dec dtX0_wrongWhen 28 rfl) ?_
  refine pv_iloadn (pc := 49) (n := 2) 2 rfl rfl (fm_dec dtX0_wrongWhen 29 rfl) ?_
  refine pv_invV2 (k := 32) (d' := 1) (pc := 50) pcv_X0_53 (by decide) rfl (Nat.le_of_ble_eq_true rfl) (by decide) (fm_dec dtX0_wrongWhen 30 rfl) ?_
  refine c_xsd hD hX hs ho hi ?_
  refine pv_then1 ?_
  refine pv_iload (pc := 53) (i := 6) rfl (fm_dec dtX0_wrongWhen 31 rfl) ?_
  refine pv_invV5 (k := 23) (d' := 1) (pc := 55) pcv_X0_57 (by decide) rfl (Nat.le_of_ble_eq_true rfl) (by decide) (fm_dec dtX0_wrongWhen 32 rfl) ?_
  refine c_xlw hL (fun M55 g55 h55 => ?_)
  refine pv_then1 ?_
  exact pv_ireturn (pc := 58) rfl (fm_dec dtX0_wrongWhen 33 rfl) (hq M55 _ g55 h55 (by unfold wrS; rw [hi9, hz, ea]))
theorem c_xwrg {M : fmM} {Q : fmR → fmM → Prop} {D : dD} {cs : tC} {S : aS} {i a : Nat} (hD : dOk D) (hX : xdw 3 M D) (hL : lwX M cs) (hs : xst M D S) (ho : stO D S) (hi : i < D.1) (ha : a ≤ 240) (hq : ∀ (M' : fmM) (r : Int32), (∀ k j, k ≠ 26 → M'.1 k j = M.1 k j) → M'.2 = M.2 → r.toInt = wrS D cs S.1.2.2.1 S.1.1 i a → Q (.inl (some (.int r))) M') : pvGood Tx 2 qX0_wrongWhen [.ref 32, .ref 47, .int (nI i), .int 0, .int (nI a)] M Q := c_xwrgG hD hX hL hs ho hi (wk_z0 hs ho) (by have := ho.1; omega) (by omega) hq
theorem j64 {x : Int64} {z : Int32} {a b : Int} (hx : x.toInt = a) (hz : z.toInt = b) (h1 : -1000000000 ≤ a * b) (h2 : a * b ≤ 1000000000) : (x * z.toInt64).toInt = a * b := by
  rw [Int64.toInt_mul, Int32.toInt_toInt64, hx, hz]
  exact Int.bmod_eq_of_le (by omega) (by omega)
theorem mul_b {a b m n : Int} (ha : 0 ≤ a) (ha2 : a ≤ m) (hb : 0 ≤ b) (hb2 : b ≤ n) : 0 ≤ a * b ∧ a * b ≤ m * n := ⟨Int.mul_nonneg ha hb, Int.mul_le_mul ha2 hb2 hb (by omega)⟩
/-- what a death would lose in week w, the piece being so old then, or -1 -/
def coA (D : dD) (cs : tC) (dead w i : Nat) (age : Int) : Int := if age = -1 then 64 * D.2.2.2.2 3 * D.2.1 i 2 else D.2.2.2.2 4 * D.2.1 i 2 * wrS D cs dead w i age.toNat
theorem coS_A {D : dD} {cs : tC} {S : aS} {i : Nat} : coS D cs S i = coA D cs S.1.2.2.1 S.1.1 i (S.2 i) := rfl
theorem coA_b {D : dD} {cs : tC} {dead w i : Nat} {age : Int} (hD : dOk D) (hi : i < D.1) : 0 ≤ coA D cs dead w i age ∧ coA D cs dead w i age ≤ 57024 := by
  have b2 := (hD.2.2.1 i hi).2.2.1
  have b3 := hD.2.2.2.2.2.1
  have b4 := hD.2.2.2.2.2.2.1
  unfold coA
  split
  · have h1 := mul_b (a := 64 * D.2.2.2.2 3) (b := D.2.1 i 2) (m := 576) (n := 99) (by omega) (by omega) (by omega) (by omega)
    omega
  · have h1 := mul_b (a := D.2.2.2.2 4) (b := D.2.1 i 2) (m := 9) (n := 99) (by omega) (by omega) (by omega) (by omega)
    have hw := wrS_b (D := D) (cs := cs) (dead := dead) (w := w) (i := i) (age := age.toNat)
    have h2 := mul_b (a := D.2.2.2.2 4 * D.2.1 i 2) (b := wrS D cs dead w i age.toNat) (m := 891) (n := 64) (by omega) (by omega) hw.1 hw.2
    omega
theorem coS_b {D : dD} {cs : tC} {S : aS} {i : Nat} (hD : dOk D) (hi : i < D.1) : 0 ≤ coS D cs S i ∧ coS D cs S i ≤ 57024 := by
  have b2 := (hD.2.2.1 i hi).2.2.1
  have b3 := hD.2.2.2.2.2.1
  have b4 := hD.2.2.2.2.2.2.1
  unfold coS
  split
  · have h1 := mul_b (a := 64 * D.2.2.2.2 3) (b := D.2.1 i 2) (m := 576) (n := 99) (by omega) (by omega) (by omega) (by omega)
    omega
  · have h1 := mul_b (a := D.2.2.2.2 4) (b := D.2.1 i 2) (m := 9) (n := 99) (by omega) (by omega) (by omega) (by omega)
    have hw := wrS_b (D := D) (cs := cs) (dead := S.1.2.2.1) (w := S.1.1) (i := i) (age := (S.2 i).toNat)
    have h2 := mul_b (a := D.2.2.2.2 4 * D.2.1 i 2) (b := wrS D cs S.1.2.2.1 S.1.1 i (S.2 i).toNat) (m := 891) (n := 64) (by omega) (by omega) hw.1 hw.2
    omega
set_option maxRecDepth 20000 in
theorem c_xcostG {M : fmM} {Q : fmR → fmM → Prop} {D : dD} {cs : tC} {S : aS} {i w : Nat} {ag : Int} {z x : Int32} (hD : dOk D) (hX : xdw 3 M D) (hL : lwX M cs) (hs : xst M D S) (ho : stO D S) (hi : i < D.1) (hz : (M.1 47 2 + z).toInt = (w : Int)) (hw : w ≤ 300) (hx : x.toInt = ag) (ha : -1 ≤ ag ∧ ag ≤ 400) (hq : ∀ (M' : fmM) (r : Int64), (∀ k j, k ≠ 26 → M'.1 k j = M.1 k j) → M'.2 = M.2 → r.toInt = coA D cs S.1.2.2.1 w i ag → Q (.inl (some (.long r))) M') : pvGood Tx 3 qX0_costWhen [.ref 32, .ref 47, .int (nI i), .int z, .int x] M Q := by
  refine pvGood_of (Nat.le_of_ble_eq_true rfl) ?_
  show pvEv Tx 3 qX0_costWhen 0 [some (.ref 32), some (.ref 47), some (.int (nI i)), some (.int z), some (.int x)] [] M Q
  have d8 := hD.1
  have hi9 : (nI i).toInt = (i : Int) := nI_toInt (by omega)
  have zm : (-1 : Int32).toInt = -1 := (by decide)
  have b2 := (hD.2.2.1 i hi).2.2.1
  have b3 := hD.2.2.2.2.2.1
  have b4 := hD.2.2.2.2.2.2.1
  have g2 : (M.1 6 i).toInt = D.2.1 i 2 := hX.2.1 i hi 2 (by decide)
  have g3 : (M.1 3 12).toInt = D.2.2.2.2 3 := hX.1.2.2.2.1
  have g4 : (M.1 3 13).toInt = D.2.2.2.2 4 := hX.1.2.2.2.2.1
  refine pv_iload (pc := 0) (i := 4) rfl (fm_dec dtX0_costWhen 0 rfl) ?_
  refine pv_iconst (pc := 2) (v := (-1)) (by decide) (fm_dec dtX0_costWhen 1 rfl) ?_
  refine pv_icmp_ne (pc := 3) 30 (by decide) (fm_dec dtX0_costWhen 2 rfl) (fun hc3 => ?_) (fun hc3 => ?_)
  · have hne : ¬ ag = -1 := (fun h9 => hc3 (i32_ext (by omega)))
    have hxa : x = nI ag.toNat := nI_is (by omega) (by omega)
    subst hxa
    refine pv_aloadn (pc := 30) (n := 0) 0 rfl rfl (fm_dec dtX0_costWhen 17 rfl) ?_
    refine pv_getR (k := 32) (j := 0) (ci := 0) (pc := 31) 3 rfl (by decide) pfl_X0_15 (by decide) rfl (by decide) (fm_dec dtX0_costWhen 18 rfl) ?_
    refine pv_getI (k := 3) (j := 13) (ci := 8) (pc := 34) pfl_X0_68 (by decide) rfl (by decide) (fm_dec dtX0_costWhen 19 rfl) ?_
    refine pv_i2l (pc := 37) (fm_dec dtX0_costWhen 20 rfl) ?_
    refine pv_aloadn (pc := 38) (n := 0) 0 rfl rfl (fm_dec dtX0_costWhen 21 rfl) ?_
    refine pv_getR (k := 32) (j := 0) (ci := 0) (pc := 39) 3 rfl (by decide) pfl_X0_15 (by decide) rfl (by decide) (fm_dec dtX0_costWhen 22 rfl) ?_
    refine pv_getR (k := 3) (j := 2) (ci := 8) (pc := 42) 6 rfl (by decide) pfl_X0_50 (by decide) rfl (by decide) (fm_dec dtX0_costWhen 23 rfl) ?_
    refine pv_iloadn (pc := 45) (n := 2) 2 rfl rfl (fm_dec dtX0_costWhen 24 rfl) ?_
    refine pv_iald (k := 6) (n := 8) (pc := 46) (by decide) rfl rfl (ix_in hi9 (by omega)) (fm_dec dtX0_costWhen 25 rfl) ?_
    rw [i32_cl hi9]
    refine pv_i2l (pc := 47) (fm_dec dtX0_costWhen 26 rfl) ?_
    refine pv_lmul (pc := 48) (fm_dec dtX0_costWhen 27 rfl) ?_
    refine pv_aloadn (pc := 49) (n := 0) 0 rfl rfl (fm_dec dtX0_costWhen 28 rfl) ?_
    refine pv_aloadn (pc := 50) (n := 1) 1 rfl rfl (fm_dec dtX0_costWhen 29 rfl) ?_
    refine pv_iloadn (pc := 51) (n := 2) 2 rfl rfl (fm_dec dtX0_costWhen 30 rfl) ?_
    refine pv_iloadn (pc := 52) (n := 3) 3 rfl rfl (fm_dec dtX0_costWhen 31 rfl) ?_
    refine pv_iload (pc := 53) (i := 4) rfl (fm_dec dtX0_costWhen 32 rfl) ?_
    refine pv_invV4 (k := 32) (d' := 2) (pc := 55) pcv_X0_71 (by decide) rfl (Nat.le_of_ble_eq_true rfl) (by decide) (fm_dec dtX0_costWhen 33 rfl) ?_
    refine c_xwrgG hD hX hL hs ho hi hz hw (by omega) (fun M55 r55 g55 h55 e55 => ?_)
    refine pv_then1 ?_
    refine pv_i2l (pc := 58) (fm_dec dtX0_costWhen 34 rfl) ?_
    refine pv_lmul (pc := 59) (fm_dec dtX0_costWhen 35 rfl) ?_
    exact pv_lreturn (pc := 60) rfl (fm_dec dtX0_costWhen 36 rfl) (hq M55 _ g55 h55 (by have h1 := mul_b (a := D.2.2.2.2 4) (b := D.2.1 i 2) (m := 9) (n := 99) (by omega) (by omega) (by omega) (by omega); have e1 := j64 (x := (M.1 3 13).toInt64) (a := D.2.2.2.2 4) (by rw [Int32.toInt_toInt64]; exact g4) g2 (by omega) (by omega); have hw9 := wrS_b (D := D) (cs := cs) (dead := S.1.2.2.1) (w := w) (i := i) (age := ag.toNat); have h2 := mul_b (a := D.2.2.2.2 4 * D.2.1 i 2) (b := wrS D cs S.1.2.2.1 w i ag.toNat) (m := 891) (n := 64) (by omega) (by omega) hw9.1 hw9.2; rw [j64 e1 e55 (by omega) (by omega)]; unfold coA; rw [if_neg hne]))
  · refine pv_ldc2 (pc := 6) pkc_X0_63 (fm_dec dtX0_costWhen 3 rfl) ?_
    refine pv_aloadn (pc := 9) (n := 0) 0 rfl rfl (fm_dec dtX0_costWhen 4 rfl) ?_
    refine pv_getR (k := 32) (j := 0) (ci := 0) (pc := 10) 3 rfl (by decide) pfl_X0_15 (by decide) rfl (by decide) (fm_dec dtX0_costWhen 5 rfl) ?_
    refine pv_getI (k := 3) (j := 12) (ci := 8) (pc := 13) pfl_X0_65 (by decide) rfl (by decide) (fm_dec dtX0_costWhen 6 rfl) ?_
    refine pv_i2l (pc := 16) (fm_dec dtX0_costWhen 7 rfl) ?_
    refine pv_lmul (pc := 17) (fm_dec dtX0_costWhen 8 rfl) ?_
    refine pv_aloadn (pc := 18) (n := 0) 0 rfl rfl (fm_dec dtX0_costWhen 9 rfl) ?_
    refine pv_getR (k := 32) (j := 0) (ci := 0) (pc := 19) 3 rfl (by decide) pfl_X0_15 (by decide) rfl (by decide) (fm_dec dtX0_costWhen 10 rfl) ?_
    refine pv_getR (k := 3) (j := 2) (ci := 8) (pc := 22) 6 rfl (by decide) pfl_X0_50 (by decide) rfl (by decide) (fm_dec dtX0_costWhen 11 rfl) ?_
    refine pv_iloadn (pc := 25) (n := 2) 2 rfl rfl (fm_dec dtX0_costWhen 12 rfl) ?_
    refine pv_iald (k := 6) (n := 8) (pc := 26) (by decide) rfl rfl (ix_in hi9 (by omega)) (fm_dec dtX0_costWhen 13 rfl) ?_
    rw [i32_cl hi9]
    refine pv_i2l (pc := 27) (fm_dec dtX0_costWhen 14 rfl) ?_
    refine pv_lmul (pc := 28) (fm_dec dtX0_costWhen 15 rfl) ?_
    exact pv_lreturn (pc := 29) rfl (fm_dec dtX0_costWhen 16 rfl) (hq M _ (fun _ _ _ => rfl) rfl (by have h1 := mul_b (a := 64) (b := D.2.2.2.2 3) (m := 64) (n := 9) (by omega) (by omega) (by omega) (by omega); have e1 := j64 (x := 64) (a := 64) (by decide) g3 (by omega) (by omega); have h2 := mul_b (a := 64 * D.2.2.2.2 3) (b := D.2.1 i 2) (m := 576) (n := 99) (by omega) (by omega) (by omega) (by omega); rw [j64 e1 g2 (by omega) (by omega)]; unfold coA; rw [if_pos (by have h9 := congrArg Int32.toInt hc3; omega)]))
theorem c_xcost {M : fmM} {Q : fmR → fmM → Prop} {D : dD} {cs : tC} {S : aS} {i : Nat} {x : Int32} (hD : dOk D) (hX : xdw 3 M D) (hL : lwX M cs) (hs : xst M D S) (ho : stO D S) (hi : i < D.1) (hx : x.toInt = S.2 i) (hq : ∀ (M' : fmM) (r : Int64), (∀ k j, k ≠ 26 → M'.1 k j = M.1 k j) → M'.2 = M.2 → r.toInt = coS D cs S i → Q (.inl (some (.long r))) M') : pvGood Tx 3 qX0_costWhen [.ref 32, .ref 47, .int (nI i), .int 0, .int x] M Q := c_xcostG hD hX hL hs ho hi (wk_z0 hs ho) (by have := ho.1; omega) hx (by have h1 := ho.2.2.2.2.2.2.1 i hi; have h2 := ho.1; omega) hq
/-- nothing but the state and the law's own stack has changed -/
def sFr (M M' : fmM) : Prop := (∀ k j, k ≠ 26 → k ≠ 47 → k ≠ 48 → M'.1 k j = M.1 k j) ∧ (∀ k j, k ≠ 47 → M'.2 k j = M.2 k j)
theorem sFr.refl (M : fmM) : sFr M M := ⟨fun _ _ _ _ _ => rfl, fun _ _ _ => rfl⟩
theorem sFr.trans {M M1 M2 : fmM} (h : sFr M M1) (h' : sFr M1 M2) : sFr M M2 := ⟨fun k j a b c => (h'.1 k j a b c).trans (h.1 k j a b c), fun k j a => (h'.2 k j a).trans (h.2 k j a)⟩
theorem sFr.put {M M1 : fmM} {k j : Nat} {x : Int32} (h : sFr M M1) (hk : k = 47 ∨ k = 48) : sFr M (fmI M1 k j x) := ⟨fun k' j' a b c => by rw [fmI_k _ _ (by omega)]; exact h.1 k' j' a b c, h.2⟩
theorem fmJ_k2 {M : fmM} {k k' j : Nat} {x : Int64} (h : k' ≠ k) : (fmJ M k j x).2 k' = M.2 k' := by
  show (if k' = k then _ else M.2 k') = _
  rw [if_neg h]
theorem fmJ_s2 {M : fmM} {k j : Nat} {x : Int64} : (fmJ M k j x).2 k j = x := by
  show (if k = k then vp_updL (M.2 k) j x else M.2 k) j = x
  rw [if_pos rfl]
  simp [vp_updL]
theorem sFr.putJ {M M1 : fmM} {j : Nat} {x : Int64} (h : sFr M M1) : sFr M (fmJ M1 47 j x) := ⟨h.1, fun k' j' a => by rw [fmJ_k2 a]; exact h.2 k' j' a⟩
theorem xst.low {M M' : fmM} {D : dD} {S : aS} (h : xst M D S) (hk : ∀ k j, k ≠ 26 → M'.1 k j = M.1 k j) (h2 : M'.2 = M.2) : xst M' D S := h.of (fun k j a => hk k j (by omega)) (by rw [h2])
theorem or8n : ∀ w, w < 256 → ∀ k, k < 8 → (nI w ||| (1 : Int32) <<< (nI k &&& 31)).toInt = ((w ||| 1 <<< k : Nat) : Int) := by decide +kernel
def diM (M : fmM) (L : Int64) (i : Nat) (no : Bool) : fmM := if no then fmI (fmI (fmI (fmJ M 47 6 L) 47 4 (M.1 47 4 + 1)) 47 3 (pvMx true 0 (M.1 47 3 - 2))) 47 1 (M.1 47 1 ||| 1 <<< (nI i &&& 31)) else fmI (fmI (fmI (fmJ M 47 6 L) 47 5 (M.1 47 5 + 1)) 48 i (-1)) 47 1 (M.1 47 1 ||| 1 <<< (nI i &&& 31))
theorem di_st {M : fmM} {D : dD} {cs : tC} {S : aS} {i : Nat} {L : Int64} (hD : dOk D) (hs : xst M D S) (ho : stO D S) (hi : i < D.1) (ht : S.1.2.2.1.testBit i = false) (hL : L.toInt = S.1.2.2.2.2.2 + coS D cs S i) : ∃ S', diS D cs S i = some S' ∧ xst (diM M L i (decide (S.2 i = -1))) D S' := by
  obtain ⟨a, b, c, d, e, f, g⟩ := hs
  have d8 := hD.1
  have p8 := pop8_le _ ho.2.2.1
  have hp := ho.2.2.2.1
  have h12 := ho.2.1
  have z0 : (0 : Int32).toInt = 0 := by decide
  have z1 : (1 : Int32).toInt = 1 := by decide
  have z2 : (2 : Int32).toInt = 2 := by decide
  have e1 : M.1 47 1 = nI S.1.2.2.1 := nI_is a (by have := ho.2.2.1; omega)
  have eo : (M.1 47 1 ||| 1 <<< (nI i &&& 31)).toInt = ((S.1.2.2.1 ||| 1 <<< i : Nat) : Int) := by rw [e1]; exact or8n _ ho.2.2.1 i (by omega)
  unfold diS
  rw [if_neg (by rw [ht]; decide)]
  by_cases hm : S.2 i = -1
  · rw [if_pos hm]
    refine ⟨_, rfl, ?_⟩
    have e9 : diM M L i (decide (S.2 i = -1)) = fmI (fmI (fmI (fmJ M 47 6 L) 47 4 (M.1 47 4 + 1)) 47 3 (pvMx true 0 (M.1 47 3 - 2))) 47 1 (M.1 47 1 ||| 1 <<< (nI i &&& 31)) := by
      unfold diM
      rw [if_pos (decide_eq_true hm)]
    rw [e9]
    refine ⟨eo, b, ?_, ?_, e, ?_, fun j hj => g j hj⟩
    · show (pvMx true 0 (M.1 47 3 - 2)).toInt = ((S.1.2.1 - 2 : Nat) : Int)
      rw [mxt, sc_sub (by omega) (by omega), z0, z2, c]
      omega
    · show (M.1 47 4 + 1).toInt = ((S.1.2.2.2.1 + 1 : Nat) : Int)
      rw [sc_add (by omega) (by omega)]
      omega
    · show ((fmJ M 47 6 L).2 47 6).toInt = _
      rw [fmJ_s2]
      exact hL
  · rw [if_neg hm]
    refine ⟨_, rfl, ?_⟩
    have e9 : diM M L i (decide (S.2 i = -1)) = fmI (fmI (fmI (fmJ M 47 6 L) 47 5 (M.1 47 5 + 1)) 48 i (-1)) 47 1 (M.1 47 1 ||| 1 <<< (nI i &&& 31)) := by
      unfold diM
      rw [if_neg (by rw [decide_eq_true_eq]; exact hm)]
    rw [e9]
    refine ⟨eo, b, c, d, ?_, ?_, fun j hj => ?_⟩
    · show (M.1 47 5 + 1).toInt = ((S.1.2.2.2.2.1 + 1 : Nat) : Int)
      rw [sc_add (by omega) (by omega)]
      omega
    · show ((fmJ M 47 6 L).2 47 6).toInt = _
      rw [fmJ_s2]
      exact hL
    · rw [fmI_k _ _ (by decide), fmI_at]
      by_cases e0 : j = i
      · subst e0
        rw [if_pos ⟨rfl, rfl⟩]
        show (-1 : Int32).toInt = if j = j then -1 else S.2 j
        rw [if_pos rfl]
        decide
      · rw [if_neg (by omega), fmI_k _ _ (by decide)]
        show _ = if j = i then -1 else S.2 j
        rw [if_neg e0]
        exact g j hj
theorem di_fr {M0 M : fmM} {L : Int64} {i : Nat} {no : Bool} (h : sFr M0 M) : sFr M0 (diM M L i no) := by
  unfold diM
  split
  · exact ((h.putJ.put (Or.inl rfl)).put (Or.inl rfl)).put (Or.inl rfl)
  · exact ((h.putJ.put (Or.inl rfl)).put (Or.inr rfl)).put (Or.inl rfl)
set_option maxRecDepth 20000 in
theorem c_xdie {M : fmM} {Q : fmR → fmM → Prop} {D : dD} {cs : tC} {S : aS} {i : Nat} (hD : dOk D) (hX : xdw 3 M D) (hL : lwX M cs) (hs : xst M D S) (ho : stO D S) (hi : i < D.1) (hn : diS D cs S i = none → Q (.inl (some (.int 0))) M) (hq : ∀ (M' : fmM) (S' : aS), diS D cs S i = some S' → xst M' D S' → sFr M M' → Q (.inl (some (.int 1))) M') : pvGood Tx 4 qX0_letDie [.ref 32, .ref 47, .int (nI i)] M Q := by
  refine pvGood_of (Nat.le_of_ble_eq_true rfl) ?_
  show pvEv Tx 4 qX0_letDie 0 [some (.ref 32), some (.ref 47), some (.int (nI i))] [] M Q
  have d8 := hD.1
  have hi9 : (nI i).toInt = (i : Int) := nI_toInt (by omega)
  have g48 := hs.2.2.2.2.2.2 i hi
  have zm : (-1 : Int32).toInt = -1 := (by decide)
  refine pv_aloadn (pc := 0) (n := 1) 1 rfl rfl (fm_dec dtX0_letDie 0 rfl) ?_
  refine pv_iloadn (pc := 1) (n := 2) 2 rfl rfl (fm_dec dtX0_letDie 1 rfl) ?_
  refine pv_invV1 (k := 47) (d' := 0) (pc := 2) pcv_X0_38 (by decide) rfl (Nat.le_of_ble_eq_true rfl) (by decide) (fm_dec dtX0_letDie 2 rfl) ?_
  refine c_xaliv hs ho (by omega) ?_
  refine pv_then1 ?_
  refine pv_if_ne (pc := 5) 10 (by decide) (fm_dec dtX0_letDie 3 rfl) (fun hc5 => ?_) (fun hc5 => ?_)
  · refine pv_aloadn (pc := 10) (n := 1) 1 rfl rfl (fm_dec dtX0_letDie 6 rfl) ?_
    refine pv_dup (pc := 11) rfl (fm_dec dtX0_letDie 7 rfl) ?_
    refine pv_getJ (k := 47) (j := 6) (ci := 6) (pc := 12) pfl_X0_118 (by decide) rfl (by decide) (fm_dec dtX0_letDie 8 rfl) ?_
    refine pv_aloadn (pc := 15) (n := 0) 0 rfl rfl (fm_dec dtX0_letDie 9 rfl) ?_
    refine pv_aloadn (pc := 16) (n := 1) 1 rfl rfl (fm_dec dtX0_letDie 10 rfl) ?_
    refine pv_iloadn (pc := 17) (n := 2) 2 rfl rfl (fm_dec dtX0_letDie 11 rfl) ?_
    refine pv_iconst (pc := 18) (v := 0) (by decide) (fm_dec dtX0_letDie 12 rfl) ?_
    refine pv_aloadn (pc := 19) (n := 1) 1 rfl rfl (fm_dec dtX0_letDie 13 rfl) ?_
    refine pv_getR (k := 47) (j := 0) (ci := 6) (pc := 20) 48 rfl (by decide) pfl_X0_78 (by decide) rfl (by decide) (fm_dec dtX0_letDie 14 rfl) ?_
    refine pv_iloadn (pc := 23) (n := 2) 2 rfl rfl (fm_dec dtX0_letDie 15 rfl) ?_
    refine pv_iald (k := 48) (n := 8) (pc := 24) (by decide) rfl rfl (ix_in hi9 (by omega)) (fm_dec dtX0_letDie 16 rfl) ?_
    rw [i32_cl hi9]
    refine pv_invV4 (k := 32) (d' := 3) (pc := 25) pcv_X0_84 (by decide) rfl (Nat.le_of_ble_eq_true rfl) (by decide) (fm_dec dtX0_letDie 17 rfl) ?_
    refine c_xcost hD hX hL hs ho hi g48 (fun M25 r25 g25 h25 e25 => ?_)
    refine pv_then1 ?_
    have hs25 : xst M25 D S := hs.low g25 h25
    have hL9 : (M.2 47 6 + r25).toInt = S.1.2.2.2.2.2 + coS D cs S i := (by have h9 := coS_b (cs := cs) (S := S) hD hi; have p8 := pop8_le _ ho.2.2.1; have l1 := ho.2.2.2.2.1; have l2 := ho.2.2.2.2.2.1; rw [Int64.toInt_add, hs.2.2.2.2.2.1, e25]; exact Int.bmod_eq_of_le (by omega) (by omega))
    refine pv_ladd (pc := 28) (fm_dec dtX0_letDie 18 rfl) ?_
    refine pv_putJ (k := 47) (j := 6) (ci := 6) (pc := 29) pfl_X0_118 (by decide) rfl (by decide) (fm_dec dtX0_letDie 19 rfl) ?_
    refine pv_aloadn (pc := 32) (n := 1) 1 rfl rfl (fm_dec dtX0_letDie 20 rfl) ?_
    refine pv_getR (k := 47) (j := 0) (ci := 6) (pc := 33) 48 rfl (by decide) pfl_X0_78 (by decide) rfl (by decide) (fm_dec dtX0_letDie 21 rfl) ?_
    refine pv_iloadn (pc := 36) (n := 2) 2 rfl rfl (fm_dec dtX0_letDie 22 rfl) ?_
    refine pv_iald (k := 48) (n := 8) (pc := 37) (by decide) rfl rfl (ix_in hi9 (by omega)) (fm_dec dtX0_letDie 23 rfl) ?_
    rw [i32_cl hi9]
    have g48b : (M25.1 48 i).toInt = S.2 i := hs25.2.2.2.2.2.2 i hi
    obtain ⟨S9, e9, h9⟩ := di_st (L := M.2 47 6 + r25) (cs := cs) hD hs25 ho hi (by cases h8 : S.1.2.2.1.testBit i with | false => rfl | true => rw [h8] at hc5; exact absurd rfl hc5) hL9
    have f9 : sFr M (diM M25 (M.2 47 6 + r25) i (decide (S.2 i = -1))) := di_fr ⟨fun k j a b c => g25 k j a, fun k j a => by rw [h25]⟩
    refine pv_iconst (pc := 38) (v := (-1)) (by decide) (fm_dec dtX0_letDie 24 rfl) ?_
    refine pv_icmp_ne (pc := 39) 69 (by decide) (fm_dec dtX0_letDie 25 rfl) (fun hc39 => ?_) (fun hc39 => ?_)
    · refine pv_aloadn (pc := 69) (n := 1) 1 rfl rfl (fm_dec dtX0_letDie 41 rfl) ?_
      refine pv_dup (pc := 70) rfl (fm_dec dtX0_letDie 42 rfl) ?_
      refine pv_getI (k := 47) (j := 5) (ci := 6) (pc := 71) pfl_X0_128 (by decide) rfl (by decide) (fm_dec dtX0_letDie 43 rfl) ?_
      refine pv_iconst (pc := 74) (v := 1) (by decide) (fm_dec dtX0_letDie 44 rfl) ?_
      refine pv_iadd (pc := 75) (fm_dec dtX0_letDie 45 rfl) ?_
      refine pv_putI (k := 47) (j := 5) (ci := 6) (pc := 76) pfl_X0_128 (by decide) rfl (by decide) (fm_dec dtX0_letDie 46 rfl) ?_
      refine pv_aloadn (pc := 79) (n := 1) 1 rfl rfl (fm_dec dtX0_letDie 47 rfl) ?_
      refine pv_getR (k := 47) (j := 0) (ci := 6) (pc := 80) 48 rfl (by decide) pfl_X0_78 (by decide) rfl (by decide) (fm_dec dtX0_letDie 48 rfl) ?_
      refine pv_iloadn (pc := 83) (n := 2) 2 rfl rfl (fm_dec dtX0_letDie 49 rfl) ?_
      refine pv_iconst (pc := 84) (v := (-1)) (by decide) (fm_dec dtX0_letDie 50 rfl) ?_
      refine pv_iast (k := 48) (n := 8) (pc := 85) (by decide) rfl rfl (ix_in hi9 (by omega)) (fm_dec dtX0_letDie 51 rfl) ?_
      rw [i32_cl hi9]
      refine pv_aloadn (pc := 86) (n := 1) 1 rfl rfl (fm_dec dtX0_letDie 52 rfl) ?_
      refine pv_dup (pc := 87) rfl (fm_dec dtX0_letDie 53 rfl) ?_
      refine pv_getI (k := 47) (j := 1) (ci := 6) (pc := 88) pfl_X0_131 (by decide) rfl (by decide) (fm_dec dtX0_letDie 54 rfl) ?_
      refine pv_iconst (pc := 91) (v := 1) (by decide) (fm_dec dtX0_letDie 55 rfl) ?_
      refine pv_iloadn (pc := 92) (n := 2) 2 rfl rfl (fm_dec dtX0_letDie 56 rfl) ?_
      refine pv_ishl (pc := 93) (fm_dec dtX0_letDie 57 rfl) ?_
      refine pv_ior (pc := 94) (fm_dec dtX0_letDie 58 rfl) ?_
      refine pv_putI (k := 47) (j := 1) (ci := 6) (pc := 95) pfl_X0_131 (by decide) rfl (by decide) (fm_dec dtX0_letDie 59 rfl) ?_
      refine pv_iconst (pc := 98) (v := 1) (by decide) (fm_dec dtX0_letDie 60 rfl) ?_
      exact pv_zreturn (pc := 99) rfl (by first | exact Or.inr rfl | exact Or.inl rfl) (fm_dec dtX0_letDie 61 rfl) (by have hm : ¬ S.2 i = -1 := (fun h8 => hc39 (i32_ext (by show (M25.1 48 i).toInt = _; omega))); have e8 : diM M25 (M.2 47 6 + r25) i (decide (S.2 i = -1)) = fmI (fmI (fmI (fmJ M25 47 6 (M.2 47 6 + r25)) 47 5 (M25.1 47 5 + 1)) 48 i (-1)) 47 1 (M25.1 47 1 ||| 1 <<< (nI i &&& 31)) := (by unfold diM; rw [if_neg (by rw [decide_eq_true_eq]; exact hm)]); rw [e8] at h9 f9; exact hq _ S9 e9 h9 f9)
    · refine pv_aloadn (pc := 42) (n := 1) 1 rfl rfl (fm_dec dtX0_letDie 26 rfl) ?_
      refine pv_dup (pc := 43) rfl (fm_dec dtX0_letDie 27 rfl) ?_
      refine pv_getI (k := 47) (j := 4) (ci := 6) (pc := 44) pfl_X0_122 (by decide) rfl (by decide) (fm_dec dtX0_letDie 28 rfl) ?_
      refine pv_iconst (pc := 47) (v := 1) (by decide) (fm_dec dtX0_letDie 29 rfl) ?_
      refine pv_iadd (pc := 48) (fm_dec dtX0_letDie 30 rfl) ?_
      refine pv_putI (k := 47) (j := 4) (ci := 6) (pc := 49) pfl_X0_122 (by decide) rfl (by decide) (fm_dec dtX0_letDie 31 rfl) ?_
      refine pv_aloadn (pc := 52) (n := 1) 1 rfl rfl (fm_dec dtX0_letDie 32 rfl) ?_
      refine pv_iconst (pc := 53) (v := 0) (by decide) (fm_dec dtX0_letDie 33 rfl) ?_
      refine pv_aloadn (pc := 54) (n := 1) 1 rfl rfl (fm_dec dtX0_letDie 34 rfl) ?_
      refine pv_getI (k := 47) (j := 3) (ci := 6) (pc := 55) pfl_X0_116 (by decide) rfl (by decide) (fm_dec dtX0_letDie 35 rfl) ?_
      refine pv_iconst (pc := 58) (v := 2) (by decide) (fm_dec dtX0_letDie 36 rfl) ?_
      refine pv_isub (pc := 59) (fm_dec dtX0_letDie 37 rfl) ?_
      refine pv_mm (pc := 60) pmm_X0_125 (by decide) (Nat.le_of_ble_eq_true rfl) (fm_dec dtX0_letDie 38 rfl) ?_
      refine pv_putI (k := 47) (j := 3) (ci := 6) (pc := 63) pfl_X0_116 (by decide) rfl (by decide) (fm_dec dtX0_letDie 39 rfl) ?_
      refine pv_goto (pc := 66) 86 (by decide) (fm_dec dtX0_letDie 40 rfl) ?_
      refine pv_aloadn (pc := 86) (n := 1) 1 rfl rfl (fm_dec dtX0_letDie 52 rfl) ?_
      refine pv_dup (pc := 87) rfl (fm_dec dtX0_letDie 53 rfl) ?_
      refine pv_getI (k := 47) (j := 1) (ci := 6) (pc := 88) pfl_X0_131 (by decide) rfl (by decide) (fm_dec dtX0_letDie 54 rfl) ?_
      refine pv_iconst (pc := 91) (v := 1) (by decide) (fm_dec dtX0_letDie 55 rfl) ?_
      refine pv_iloadn (pc := 92) (n := 2) 2 rfl rfl (fm_dec dtX0_letDie 56 rfl) ?_
      refine pv_ishl (pc := 93) (fm_dec dtX0_letDie 57 rfl) ?_
      refine pv_ior (pc := 94) (fm_dec dtX0_letDie 58 rfl) ?_
      refine pv_putI (k := 47) (j := 1) (ci := 6) (pc := 95) pfl_X0_131 (by decide) rfl (by decide) (fm_dec dtX0_letDie 59 rfl) ?_
      refine pv_iconst (pc := 98) (v := 1) (by decide) (fm_dec dtX0_letDie 60 rfl) ?_
      exact pv_zreturn (pc := 99) rfl (by first | exact Or.inr rfl | exact Or.inl rfl) (fm_dec dtX0_letDie 61 rfl) (by have hm : S.2 i = -1 := (by have h8 := congrArg Int32.toInt hc39; have h7 : (M25.1 48 i).toInt = -1 := h8.trans zm; omega); have e8 : diM M25 (M.2 47 6 + r25) i (decide (S.2 i = -1)) = fmI (fmI (fmI (fmJ M25 47 6 (M.2 47 6 + r25)) 47 4 (M25.1 47 4 + 1)) 47 3 (pvMx true 0 (M25.1 47 3 - 2))) 47 1 (M25.1 47 1 ||| 1 <<< (nI i &&& 31)) := (by unfold diM; rw [if_pos (decide_eq_true hm)]); rw [e8] at h9 f9; exact hq _ S9 e9 h9 f9)
  · refine pv_iconst (pc := 8) (v := 0) (by decide) (fm_dec dtX0_letDie 4 rfl) ?_
    exact pv_zreturn (pc := 9) rfl (by first | exact Or.inr rfl | exact Or.inl rfl) (fm_dec dtX0_letDie 5 rfl) (hn (if_pos (by cases h8 : S.1.2.2.1.testBit i with | true => rfl | false => rw [h8] at hc5; exact absurd hc5 (by decide))))
/-- a week has passed for the first n lives -/
def wkP (D : dD) (S : aS) (n : Nat) (M0 M : fmM) : Prop := (M.1 47 1 = M0.1 47 1 ∧ M.1 47 2 = M0.1 47 2 ∧ M.1 47 3 = M0.1 47 3 ∧ M.1 47 4 = M0.1 47 4 ∧ M.1 47 5 = M0.1 47 5 ∧ M.2 = M0.2) ∧ (∀ i, i < D.1 → (M.1 48 i).toInt = if i < n then (if S.2 i = -1 then -1 else S.2 i + 1) else S.2 i) ∧ ∀ k j, k ≠ 47 → k ≠ 48 → M.1 k j = M0.1 k j
set_option maxRecDepth 20000 in
theorem xwe_loop {Q : fmR → fmM → Prop} {M0 : fmM} {D : dD} {S : aS} (hD : dOk D) (hX : xdw 3 M0 D) (ho : stO D S) (hq : ∀ M' : fmM, wkP D S D.1 M0 M' → Q (.inl (some (.int 1))) M') : ∀ (m : Nat) (n : Nat) (M : fmM), n ≤ D.1 → D.1 - n = m → wkP D S n M0 M → pvEv Tx 0 qX0_passWeek 35 [some (.ref 32), some (.ref 47), some (.int (nI n))] [] M Q := by
  intro m
  induction m using Nat.strongRecOn with
  | _ m ih =>
    intro n M hnD hm hP
    have d8 := hD.1
    have hn9 : (nI n).toInt = (n : Int) := nI_toInt (by omega)
    refine pv_iloadn (pc := 35) (n := 2) 2 rfl rfl (fm_dec dtX0_passWeek 19 rfl) ?_
    refine pv_aloadn (pc := 36) (n := 0) 0 rfl rfl (fm_dec dtX0_passWeek 20 rfl) ?_
    refine pv_getR (k := 32) (j := 0) (ci := 0) (pc := 37) 3 rfl (by decide) pfl_X0_15 (by decide) rfl (by decide) (fm_dec dtX0_passWeek 21 rfl) ?_
    refine pv_getI (k := 3) (j := 9) (ci := 8) (pc := 40) pfl_X0_75 (by decide) rfl (by decide) (fm_dec dtX0_passWeek 22 rfl) ?_
    refine pv_icmp_ge (pc := 43) 72 (by decide) (fm_dec dtX0_passWeek 23 rfl) (fun hc43 => ?_) (fun hc43 => ?_)
    · refine pv_iconst (pc := 72) (v := 1) (by decide) (fm_dec dtX0_passWeek 40 rfl) ?_
      exact pv_zreturn (pc := 73) rfl (by first | exact Or.inr rfl | exact Or.inl rfl) (fm_dec dtX0_passWeek 41 rfl) (hq M (by have e9 : n = D.1 := (by have h9 : (M.1 3 9).toInt = (D.1 : Int) := (by rw [hP.2.2 3 9 (by decide) (by decide)]; exact hX.1.1); rw [sc_le] at hc43; omega); subst e9; exact hP))
    · have hn : n < D.1 := (by have h9 : (M.1 3 9).toInt = (D.1 : Int) := (by rw [hP.2.2 3 9 (by decide) (by decide)]; exact hX.1.1); rw [sc_le] at hc43; omega)
      have g48 := hP.2.1 n hn
      rw [if_neg (Nat.lt_irrefl n)] at g48
      have bs := ho.2.2.2.2.2.2.1 n hn
      have w2 := ho.1
      refine pv_aloadn (pc := 46) (n := 1) 1 rfl rfl (fm_dec dtX0_passWeek 24 rfl) ?_
      refine pv_getR (k := 47) (j := 0) (ci := 6) (pc := 47) 48 rfl (by decide) pfl_X0_78 (by decide) rfl (by decide) (fm_dec dtX0_passWeek 25 rfl) ?_
      refine pv_iloadn (pc := 50) (n := 2) 2 rfl rfl (fm_dec dtX0_passWeek 26 rfl) ?_
      refine pv_iald (k := 48) (n := 8) (pc := 51) (by decide) rfl rfl (ix_in hn9 (by omega)) (fm_dec dtX0_passWeek 27 rfl) ?_
      rw [i32_cl hn9]
      refine pv_iconst (pc := 52) (v := (-1)) (by decide) (fm_dec dtX0_passWeek 28 rfl) ?_
      refine pv_icmp_eq (pc := 53) 66 (by decide) (fm_dec dtX0_passWeek 29 rfl) (fun hc53 => ?_) (fun hc53 => ?_)
      · refine pv_iincc (pc := 66) 2 1 (by decide) rfl (by decide) rfl (fm_dec dtX0_passWeek 38 rfl) ?_
        dsimp only [List.set_cons_zero, List.set_cons_succ]
        refine pv_goto (pc := 69) 35 (by decide) (fm_dec dtX0_passWeek 39 rfl) ?_
        have hm : S.2 n = -1 := (by have h9 := congrArg Int32.toInt hc53; have zm : (-1 : Int32).toInt = -1 := (by decide); omega)
        rw [nI_succ1]
        exact ih (D.1 - (n + 1)) (by omega) (n + 1) _ (by omega) rfl ⟨hP.1, fun i hi => (by by_cases e : i = n; (subst e; rw [if_pos (Nat.lt_succ_self _), if_pos hm]; omega); (rw [hP.2.1 i hi]; by_cases e2 : i < n; rw [if_pos e2, if_pos (show i < n + 1 by omega)]; rw [if_neg e2, if_neg (show ¬ i < n + 1 by omega)])), hP.2.2⟩
      · refine pv_aloadn (pc := 56) (n := 1) 1 rfl rfl (fm_dec dtX0_passWeek 30 rfl) ?_
        refine pv_getR (k := 47) (j := 0) (ci := 6) (pc := 57) 48 rfl (by decide) pfl_X0_78 (by decide) rfl (by decide) (fm_dec dtX0_passWeek 31 rfl) ?_
        refine pv_iloadn (pc := 60) (n := 2) 2 rfl rfl (fm_dec dtX0_passWeek 32 rfl) ?_
        refine pv_dup2 (pc := 61) rfl rfl (fm_dec dtX0_passWeek 33 rfl) ?_
        refine pv_iald (k := 48) (n := 8) (pc := 62) (by decide) rfl rfl (ix_in hn9 (by omega)) (fm_dec dtX0_passWeek 34 rfl) ?_
        rw [i32_cl hn9]
        refine pv_iconst (pc := 63) (v := 1) (by decide) (fm_dec dtX0_passWeek 35 rfl) ?_
        refine pv_iadd (pc := 64) (fm_dec dtX0_passWeek 36 rfl) ?_
        refine pv_iast (k := 48) (n := 8) (pc := 65) (by decide) rfl rfl (ix_in hn9 (by omega)) (fm_dec dtX0_passWeek 37 rfl) ?_
        rw [i32_cl hn9]
        refine pv_iincc (pc := 66) 2 1 (by decide) rfl (by decide) rfl (fm_dec dtX0_passWeek 38 rfl) ?_
        dsimp only [List.set_cons_zero, List.set_cons_succ]
        refine pv_goto (pc := 69) 35 (by decide) (fm_dec dtX0_passWeek 39 rfl) ?_
        have hm : ¬ S.2 n = -1 := (fun h9 => hc53 (i32_ext (by have zm : (-1 : Int32).toInt = -1 := (by decide); omega)))
        rw [nI_succ1]
        exact ih (D.1 - (n + 1)) (by omega) (n + 1) _ (by omega) rfl ⟨⟨hP.1.1, hP.1.2.1, hP.1.2.2.1, hP.1.2.2.2.1, hP.1.2.2.2.2.1, hP.1.2.2.2.2.2⟩, fun i hi => (by rw [fmI_at]; by_cases e : i = n; (subst e; rw [if_pos ⟨rfl, rfl⟩, if_pos (Nat.lt_succ_self _), if_neg hm]; have z1 : (1 : Int32).toInt = 1 := (by decide); rw [sc_add (by omega) (by omega)]; omega); (rw [if_neg (by omega), hP.2.1 i hi]; by_cases e2 : i < n; rw [if_pos e2, if_pos (show i < n + 1 by omega)]; rw [if_neg e2, if_neg (show ¬ i < n + 1 by omega)])), fun k j a b => (by rw [fmI_k _ _ b]; exact hP.2.2 k j a b)⟩
set_option maxRecDepth 20000 in
theorem c_xweek {M : fmM} {Q : fmR → fmM → Prop} {D : dD} {S : aS} (hD : dOk D) (hX : xdw 3 M D) (hs : xst M D S) (ho : stO D S) (hn : weS D S = none → Q (.inl (some (.int 0))) M) (hq : ∀ (M' : fmM) (S' : aS), weS D S = some S' → xst M' D S' → sFr M M' → Q (.inl (some (.int 1))) M') : pvGood Tx 0 qX0_passWeek [.ref 32, .ref 47] M Q := by
  refine pvGood_of (Nat.le_of_ble_eq_true rfl) ?_
  show pvEv Tx 0 qX0_passWeek 0 [some (.ref 32), some (.ref 47), none] [] M Q
  have z200 : (200 : Int32).toInt = 200 := (by decide)
  have g2 := hs.2.1
  have w2 := ho.1
  have b2 := hD.2.2.2.2.1
  refine pv_aloadn (pc := 0) (n := 1) 1 rfl rfl (fm_dec dtX0_passWeek 0 rfl) ?_
  refine pv_getI (k := 47) (j := 2) (ci := 6) (pc := 1) pfl_X0_29 (by decide) rfl (by decide) (fm_dec dtX0_passWeek 1 rfl) ?_
  refine pv_sipush (pc := 4) (v := 200) (by decide) (fm_dec dtX0_passWeek 2 rfl) ?_
  refine pv_icmp_lt (pc := 7) 12 (by decide) (fm_dec dtX0_passWeek 3 rfl) (fun hc7 => ?_) (fun hc7 => ?_)
  · refine pv_aloadn (pc := 12) (n := 1) 1 rfl rfl (fm_dec dtX0_passWeek 6 rfl) ?_
    refine pv_dup (pc := 13) rfl (fm_dec dtX0_passWeek 7 rfl) ?_
    refine pv_getI (k := 47) (j := 2) (ci := 6) (pc := 14) pfl_X0_29 (by decide) rfl (by decide) (fm_dec dtX0_passWeek 8 rfl) ?_
    refine pv_iconst (pc := 17) (v := 1) (by decide) (fm_dec dtX0_passWeek 9 rfl) ?_
    refine pv_iadd (pc := 18) (fm_dec dtX0_passWeek 10 rfl) ?_
    refine pv_putI (k := 47) (j := 2) (ci := 6) (pc := 19) pfl_X0_29 (by decide) rfl (by decide) (fm_dec dtX0_passWeek 11 rfl) ?_
    refine pv_aloadn (pc := 22) (n := 1) 1 rfl rfl (fm_dec dtX0_passWeek 12 rfl) ?_
    refine pv_aloadn (pc := 23) (n := 0) 0 rfl rfl (fm_dec dtX0_passWeek 13 rfl) ?_
    refine pv_getR (k := 32) (j := 0) (ci := 0) (pc := 24) 3 rfl (by decide) pfl_X0_15 (by decide) rfl (by decide) (fm_dec dtX0_passWeek 14 rfl) ?_
    refine pv_getI (k := 3) (j := 11) (ci := 8) (pc := 27) pfl_X0_134 (by decide) rfl (by decide) (fm_dec dtX0_passWeek 15 rfl) ?_
    refine pv_putI (k := 47) (j := 3) (ci := 6) (pc := 30) pfl_X0_116 (by decide) rfl (by decide) (fm_dec dtX0_passWeek 16 rfl) ?_
    refine pv_iconst (pc := 33) (v := 0) (by decide) (fm_dec dtX0_passWeek 17 rfl) ?_
    refine pv_istoren (pc := 34) (n := 2) 2 rfl (by decide) rfl (fm_dec dtX0_passWeek 18 rfl) ?_
    dsimp only [List.set_cons_zero, List.set_cons_succ]
    have hlt : S.1.1 < 200 := (by rw [sc_lt] at hc7; omega)
    refine xwe_loop (M0 := fmI (fmI M 47 2 (M.1 47 2 + 1)) 47 3 (M.1 3 11)) (S := S) hD (hX.of (fun k j a b => by rw [fmI_k _ _ (by omega), fmI_k _ _ (by omega)])) ho (fun M' hP => ?_) D.1 0 _ (by omega) (by omega) ⟨⟨rfl, rfl, rfl, rfl, rfl, rfl⟩, fun i hi => (by rw [if_neg (Nat.not_lt_zero i)]; exact hs.2.2.2.2.2.2 i hi), fun k j a b => rfl⟩
    refine hq M' _ (if_neg (by omega)) ⟨by rw [hP.1.1]; exact hs.1, ?_, ?_, by rw [hP.1.2.2.2.1]; exact hs.2.2.2.1, by rw [hP.1.2.2.2.2.1]; exact hs.2.2.2.2.1, by rw [hP.1.2.2.2.2.2]; exact hs.2.2.2.2.2.1, fun i hi => (by rw [hP.2.1 i hi, if_pos hi])⟩ ⟨fun k j _ a b => (by rw [hP.2.2 k j a b, fmI_k _ _ a, fmI_k _ _ a]), fun k j a => by rw [hP.1.2.2.2.2.2]; rfl⟩
    · rw [hP.1.2.1]
      show (M.1 47 2 + 1).toInt = ((S.1.1 + 1 : Nat) : Int)
      exact i32_p1 g2 (by omega)
    · rw [hP.1.2.2.1]
      show (M.1 3 11).toInt = (((D.2.2.2.2 2).toNat : Nat) : Int)
      have g11 : (M.1 3 11).toInt = D.2.2.2.2 2 := hX.1.2.2.1
      omega
  · refine pv_iconst (pc := 10) (v := 0) (by decide) (fm_dec dtX0_passWeek 4 rfl) ?_
    exact pv_zreturn (pc := 11) rfl (by first | exact Or.inr rfl | exact Or.inl rfl) (fm_dec dtX0_passWeek 5 rfl) (hn (if_pos (by rw [sc_lt] at hc7; omega)))
theorem do_ok {D : dD} {cs : tC} {S S' : aS} {k i : Nat} (hD : dOk D) (ho : stO D S) (hi : k < 3 → i < D.1) (h : doS D cs S k i = some S') : stO D S' := by
  obtain ⟨w2, h12, hd, hp, l1, l2, ha, hd2⟩ := ho
  have pu : ∀ S' : aS, i < D.1 → puS D S i = some S' → stO D S' := fun S' hi h => by
    unfold puS at h
    split at h
    · cases h
    · cases h
      refine ⟨w2, ?_, hd, hp, l1, l2, ⟨fun j hj => ?_, hd2⟩⟩
      · show S.1.2.1 - hoS D S i ≤ 12
        omega
      · show -1 ≤ (if j = i then (0 : Int) else S.2 j) ∧ (if j = i then (0 : Int) else S.2 j) ≤ (S.1.1 : Int) + 40
        have := ha j hj
        split <;> omega
  have di : ∀ S' : aS, i < D.1 → diS D cs S i = some S' → stO D S' := fun S' hi h => by
    have d8 := hD.1
    have hc := coS_b (cs := cs) (S := S) hD hi
    unfold diS at h
    split at h
    · cases h
    · rename_i ht
      have ht : S.1.2.2.1.testBit i = false := by simpa using ht
      have hpa := pop8_add _ hd i (by omega) ht
      have hd3 : S.1.2.2.1 ||| 1 <<< i < 2 ^ D.1 := Nat.or_lt_two_pow hd2 (by rw [Nat.shiftLeft_eq, Nat.one_mul]; exact Nat.pow_lt_pow_right (by decide) hi)
      split at h
      · cases h
        refine ⟨w2, ?_, hpa.2, ?_, ?_, ?_, ⟨fun j hj => ha j hj, hd3⟩⟩
        · show S.1.2.1 - 2 ≤ 12
          omega
        · show S.1.2.2.2.1 + 1 + S.1.2.2.2.2.1 = pop8 (S.1.2.2.1 ||| 1 <<< i)
          omega
        · show 0 ≤ S.1.2.2.2.2.2 + coS D cs S i
          omega
        · show S.1.2.2.2.2.2 + coS D cs S i ≤ 57024 * ((pop8 (S.1.2.2.1 ||| 1 <<< i) : Nat) : Int)
          rw [hpa.1]
          omega
      · cases h
        refine ⟨w2, h12, hpa.2, ?_, ?_, ?_, ⟨fun j hj => ?_, hd3⟩⟩
        · show S.1.2.2.2.1 + (S.1.2.2.2.2.1 + 1) = pop8 (S.1.2.2.1 ||| 1 <<< i)
          omega
        · show 0 ≤ S.1.2.2.2.2.2 + coS D cs S i
          omega
        · show S.1.2.2.2.2.2 + coS D cs S i ≤ 57024 * ((pop8 (S.1.2.2.1 ||| 1 <<< i) : Nat) : Int)
          rw [hpa.1]
          omega
        · show -1 ≤ (if j = i then (-1 : Int) else S.2 j) ∧ (if j = i then (-1 : Int) else S.2 j) ≤ (S.1.1 : Int) + 40
          have := ha j hj
          split <;> omega
  have we : ∀ S' : aS, weS D S = some S' → stO D S' := fun S' h => by
    have b2 := hD.2.2.2.2.1
    unfold weS at h
    split at h
    · cases h
    · cases h
      refine ⟨?_, ?_, hd, hp, l1, l2, ⟨fun j hj => ?_, hd2⟩⟩
      · show S.1.1 + 1 ≤ 200
        omega
      · show (D.2.2.2.2 2).toNat ≤ 12
        omega
      · show -1 ≤ (if S.2 j = -1 then (-1 : Int) else S.2 j + 1) ∧ (if S.2 j = -1 then (-1 : Int) else S.2 j + 1) ≤ ((S.1.1 + 1 : Nat) : Int) + 40
        have := ha j hj
        split <;> omega
  unfold doS at h
  split at h
  · split at h
    · exact pu S' (hi (by decide)) h
    · cases h
  · split at h
    · cases h
    · exact pu S' (hi (by decide)) h
  · exact di S' (hi (by decide)) h
  · exact we S' h
theorem pu_fr {M : fmM} {i : Nat} {h : Int32} : sFr M (puM2 M i h) := ((sFr.refl M).put (Or.inl rfl)).put (Or.inr rfl)
set_option maxRecDepth 20000 in
theorem c_xps0 {M : fmM} {Q : fmR → fmM → Prop} {D : dD} {cs : tC} {S : aS} {i : Nat} (hD : dOk D) (hX : xdw 3 M D) (hL : lwX M cs) (hs : xst M D S) (ho : stO D S) (hi : i < D.1) (hn : doS D cs S 0 i = none → Q (.inl (some (.int 0))) M) (hq : ∀ (M' : fmM) (S' : aS), doS D cs S 0 i = some S' → xst M' D S' → sFr M M' → Q (.inl (some (.int 1))) M') : pvGood Tx 5 qX9_performStep [.ref 32, .ref 47, .int 0, .int (nI i)] M Q := by
  refine pvGood_of (Nat.le_of_ble_eq_true rfl) ?_
  show pvEv Tx 5 qX9_performStep 0 [some (.ref 32), some (.ref 47), some (.int 0), some (.int (nI i))] [] M Q
  have d8 := hD.1
  have hi9 : (nI i).toInt = (i : Int) := nI_toInt (by omega)
  have g48 := hs.2.2.2.2.2.2 i hi
  have zm : (-1 : Int32).toInt = -1 := (by decide)
  refine pv_iloadn (pc := 0) (n := 2) 2 rfl rfl (fm_dec dtX9_performStep 0 rfl) ?_
  refine pv_table (pc := 1) 28 (by decide) rfl (fm_dec dtX9_performStep 1 rfl) ?_
  refine pv_aloadn (pc := 28) (n := 1) 1 rfl rfl (fm_dec dtX9_performStep 2 rfl) ?_
  refine pv_getR (k := 47) (j := 0) (ci := 6) (pc := 29) 48 rfl (by decide) pfl_X9_89 (by decide) rfl (by decide) (fm_dec dtX9_performStep 3 rfl) ?_
  refine pv_iloadn (pc := 32) (n := 3) 3 rfl rfl (fm_dec dtX9_performStep 4 rfl) ?_
  refine pv_iald (k := 48) (n := 8) (pc := 33) (by decide) rfl rfl (ix_in hi9 (by omega)) (fm_dec dtX9_performStep 5 rfl) ?_
  rw [i32_cl hi9]
  refine pv_iconst (pc := 34) (v := (-1)) (by decide) (fm_dec dtX9_performStep 6 rfl) ?_
  refine pv_icmp_ne (pc := 35) 51 (by decide) (fm_dec dtX9_performStep 7 rfl) (fun hc35 => ?_) (fun hc35 => ?_)
  · refine pv_iconst (pc := 51) (v := 0) (by decide) (fm_dec dtX9_performStep 15 rfl) ?_
    exact pv_zreturn (pc := 52) rfl (by first | exact Or.inr rfl | exact Or.inl rfl) (fm_dec dtX9_performStep 16 rfl) (hn (by have hm : ¬ S.2 i = -1 := (fun h8 => hc35 (i32_ext (by omega))); show (if S.2 i = -1 then puS D S i else none) = none; rw [if_neg hm]))
  · refine pv_aloadn (pc := 38) (n := 0) 0 rfl rfl (fm_dec dtX9_performStep 8 rfl) ?_
    refine pv_aloadn (pc := 39) (n := 1) 1 rfl rfl (fm_dec dtX9_performStep 9 rfl) ?_
    refine pv_iloadn (pc := 40) (n := 3) 3 rfl rfl (fm_dec dtX9_performStep 10 rfl) ?_
    refine pv_invV2 (k := 32) (d' := 3) (pc := 41) pcv_X9_94 (by decide) rfl (Nat.le_of_ble_eq_true rfl) (by decide) (fm_dec dtX9_performStep 11 rfl) ?_
    refine c_xput hD hX hs ho hi (fun hp => ?_) (fun S9 r9 hp h9 => ?_)
    · refine pv_then1 ?_
      refine pv_if_eq (pc := 44) 51 (by decide) (fm_dec dtX9_performStep 12 rfl) (fun _ => ?_) (fun hc44 => by exfalso; revert hc44; decide)
      refine pv_iconst (pc := 51) (v := 0) (by decide) (fm_dec dtX9_performStep 15 rfl) ?_
      exact pv_zreturn (pc := 52) rfl (by first | exact Or.inr rfl | exact Or.inl rfl) (fm_dec dtX9_performStep 16 rfl) (hn (by have hm : S.2 i = -1 := (by have h8 := congrArg Int32.toInt hc35; omega); show (if S.2 i = -1 then puS D S i else none) = _; rw [if_pos hm]; exact hp))
    · refine pv_then1 ?_
      refine pv_if_eq (pc := 44) 51 (by decide) (fm_dec dtX9_performStep 12 rfl) (fun hc44 => by exfalso; revert hc44; decide) (fun _ => ?_)
      refine pv_iconst (pc := 47) (v := 1) (by decide) (fm_dec dtX9_performStep 13 rfl) ?_
      refine pv_goto (pc := 48) 52 (by decide) (fm_dec dtX9_performStep 14 rfl) ?_
      exact pv_zreturn (pc := 52) rfl (by first | exact Or.inr rfl | exact Or.inl rfl) (fm_dec dtX9_performStep 16 rfl) (hq _ S9 (by have hm : S.2 i = -1 := (by have h8 := congrArg Int32.toInt hc35; omega); show (if S.2 i = -1 then puS D S i else none) = _; rw [if_pos hm]; exact hp) h9 pu_fr)
set_option maxRecDepth 20000 in
theorem c_xps1 {M : fmM} {Q : fmR → fmM → Prop} {D : dD} {cs : tC} {S : aS} {i : Nat} (hD : dOk D) (hX : xdw 3 M D) (hL : lwX M cs) (hs : xst M D S) (ho : stO D S) (hi : i < D.1) (hn : doS D cs S 1 i = none → Q (.inl (some (.int 0))) M) (hq : ∀ (M' : fmM) (S' : aS), doS D cs S 1 i = some S' → xst M' D S' → sFr M M' → Q (.inl (some (.int 1))) M') : pvGood Tx 5 qX9_performStep [.ref 32, .ref 47, .int 1, .int (nI i)] M Q := by
  refine pvGood_of (Nat.le_of_ble_eq_true rfl) ?_
  show pvEv Tx 5 qX9_performStep 0 [some (.ref 32), some (.ref 47), some (.int 1), some (.int (nI i))] [] M Q
  have d8 := hD.1
  have hi9 : (nI i).toInt = (i : Int) := nI_toInt (by omega)
  have g48 := hs.2.2.2.2.2.2 i hi
  have zm : (-1 : Int32).toInt = -1 := (by decide)
  refine pv_iloadn (pc := 0) (n := 2) 2 rfl rfl (fm_dec dtX9_performStep 0 rfl) ?_
  refine pv_table (pc := 1) 53 (by decide) rfl (fm_dec dtX9_performStep 1 rfl) ?_
  refine pv_aloadn (pc := 53) (n := 1) 1 rfl rfl (fm_dec dtX9_performStep 17 rfl) ?_
  refine pv_getR (k := 47) (j := 0) (ci := 6) (pc := 54) 48 rfl (by decide) pfl_X9_89 (by decide) rfl (by decide) (fm_dec dtX9_performStep 18 rfl) ?_
  refine pv_iloadn (pc := 57) (n := 3) 3 rfl rfl (fm_dec dtX9_performStep 19 rfl) ?_
  refine pv_iald (k := 48) (n := 8) (pc := 58) (by decide) rfl rfl (ix_in hi9 (by omega)) (fm_dec dtX9_performStep 20 rfl) ?_
  rw [i32_cl hi9]
  refine pv_iconst (pc := 59) (v := (-1)) (by decide) (fm_dec dtX9_performStep 21 rfl) ?_
  refine pv_icmp_eq (pc := 60) 76 (by decide) (fm_dec dtX9_performStep 22 rfl) (fun hc60 => ?_) (fun hc60 => ?_)
  · refine pv_iconst (pc := 76) (v := 0) (by decide) (fm_dec dtX9_performStep 30 rfl) ?_
    exact pv_zreturn (pc := 77) rfl (by first | exact Or.inr rfl | exact Or.inl rfl) (fm_dec dtX9_performStep 31 rfl) (hn (by have hm : S.2 i = -1 := (by have h8 := congrArg Int32.toInt hc60; omega); show (if S.2 i = -1 then none else puS D S i) = none; rw [if_pos hm]))
  · refine pv_aloadn (pc := 63) (n := 0) 0 rfl rfl (fm_dec dtX9_performStep 23 rfl) ?_
    refine pv_aloadn (pc := 64) (n := 1) 1 rfl rfl (fm_dec dtX9_performStep 24 rfl) ?_
    refine pv_iloadn (pc := 65) (n := 3) 3 rfl rfl (fm_dec dtX9_performStep 25 rfl) ?_
    refine pv_invV2 (k := 32) (d' := 3) (pc := 66) pcv_X9_94 (by decide) rfl (Nat.le_of_ble_eq_true rfl) (by decide) (fm_dec dtX9_performStep 26 rfl) ?_
    refine c_xput hD hX hs ho hi (fun hp => ?_) (fun S9 r9 hp h9 => ?_)
    · refine pv_then1 ?_
      refine pv_if_eq (pc := 69) 76 (by decide) (fm_dec dtX9_performStep 27 rfl) (fun _ => ?_) (fun hc69 => by exfalso; revert hc69; decide)
      refine pv_iconst (pc := 76) (v := 0) (by decide) (fm_dec dtX9_performStep 30 rfl) ?_
      exact pv_zreturn (pc := 77) rfl (by first | exact Or.inr rfl | exact Or.inl rfl) (fm_dec dtX9_performStep 31 rfl) (hn (by have hm : ¬ S.2 i = -1 := (fun h8 => hc60 (i32_ext (by omega))); show (if S.2 i = -1 then none else puS D S i) = _; rw [if_neg hm]; exact hp))
    · refine pv_then1 ?_
      refine pv_if_eq (pc := 69) 76 (by decide) (fm_dec dtX9_performStep 27 rfl) (fun hc69 => by exfalso; revert hc69; decide) (fun _ => ?_)
      refine pv_iconst (pc := 72) (v := 1) (by decide) (fm_dec dtX9_performStep 28 rfl) ?_
      refine pv_goto (pc := 73) 77 (by decide) (fm_dec dtX9_performStep 29 rfl) ?_
      exact pv_zreturn (pc := 77) rfl (by first | exact Or.inr rfl | exact Or.inl rfl) (fm_dec dtX9_performStep 31 rfl) (hq _ S9 (by have hm : ¬ S.2 i = -1 := (fun h8 => hc60 (i32_ext (by omega))); show (if S.2 i = -1 then none else puS D S i) = _; rw [if_neg hm]; exact hp) h9 pu_fr)
set_option maxRecDepth 20000 in
theorem c_xps2 {M : fmM} {Q : fmR → fmM → Prop} {D : dD} {cs : tC} {S : aS} {i : Nat} (hD : dOk D) (hX : xdw 3 M D) (hL : lwX M cs) (hs : xst M D S) (ho : stO D S) (hi : i < D.1) (hn : doS D cs S 2 i = none → Q (.inl (some (.int 0))) M) (hq : ∀ (M' : fmM) (S' : aS), doS D cs S 2 i = some S' → xst M' D S' → sFr M M' → Q (.inl (some (.int 1))) M') : pvGood Tx 5 qX9_performStep [.ref 32, .ref 47, .int 2, .int (nI i)] M Q := by
  refine pvGood_of (Nat.le_of_ble_eq_true rfl) ?_
  show pvEv Tx 5 qX9_performStep 0 [some (.ref 32), some (.ref 47), some (.int 2), some (.int (nI i))] [] M Q
  refine pv_iloadn (pc := 0) (n := 2) 2 rfl rfl (fm_dec dtX9_performStep 0 rfl) ?_
  refine pv_table (pc := 1) 78 (by decide) rfl (fm_dec dtX9_performStep 1 rfl) ?_
  refine pv_aloadn (pc := 78) (n := 0) 0 rfl rfl (fm_dec dtX9_performStep 32 rfl) ?_
  refine pv_aloadn (pc := 79) (n := 1) 1 rfl rfl (fm_dec dtX9_performStep 33 rfl) ?_
  refine pv_iloadn (pc := 80) (n := 3) 3 rfl rfl (fm_dec dtX9_performStep 34 rfl) ?_
  refine pv_invV2 (k := 32) (d' := 4) (pc := 81) pcv_X9_100 (by decide) rfl (Nat.le_of_ble_eq_true rfl) (by decide) (fm_dec dtX9_performStep 35 rfl) ?_
  refine c_xdie hD hX hL hs ho hi (fun hp => ?_) (fun M9 S9 hp h9 f9 => ?_)
  · refine pv_then1 ?_
    exact pv_zreturn (pc := 84) rfl (by first | exact Or.inr rfl | exact Or.inl rfl) (fm_dec dtX9_performStep 36 rfl) (hn hp)
  · refine pv_then1 ?_
    exact pv_zreturn (pc := 84) rfl (by first | exact Or.inr rfl | exact Or.inl rfl) (fm_dec dtX9_performStep 36 rfl) (hq M9 S9 hp h9 f9)
set_option maxRecDepth 20000 in
theorem c_xps3 {M : fmM} {Q : fmR → fmM → Prop} {D : dD} {cs : tC} {S : aS} {i : Nat} (hD : dOk D) (hX : xdw 3 M D) (hL : lwX M cs) (hs : xst M D S) (ho : stO D S) (hn : doS D cs S 3 i = none → Q (.inl (some (.int 0))) M) (hq : ∀ (M' : fmM) (S' : aS), doS D cs S 3 i = some S' → xst M' D S' → sFr M M' → Q (.inl (some (.int 1))) M') : pvGood Tx 5 qX9_performStep [.ref 32, .ref 47, .int 3, .int (nI i)] M Q := by
  refine pvGood_of (Nat.le_of_ble_eq_true rfl) ?_
  show pvEv Tx 5 qX9_performStep 0 [some (.ref 32), some (.ref 47), some (.int 3), some (.int (nI i))] [] M Q
  refine pv_iloadn (pc := 0) (n := 2) 2 rfl rfl (fm_dec dtX9_performStep 0 rfl) ?_
  refine pv_table (pc := 1) 85 (by decide) rfl (fm_dec dtX9_performStep 1 rfl) ?_
  refine pv_aloadn (pc := 85) (n := 0) 0 rfl rfl (fm_dec dtX9_performStep 37 rfl) ?_
  refine pv_aloadn (pc := 86) (n := 1) 1 rfl rfl (fm_dec dtX9_performStep 38 rfl) ?_
  refine pv_invV1 (k := 32) (d' := 0) (pc := 87) pcv_X9_103 (by decide) rfl (Nat.le_of_ble_eq_true rfl) (by decide) (fm_dec dtX9_performStep 39 rfl) ?_
  refine c_xweek hD hX hs ho (fun hp => ?_) (fun M9 S9 hp h9 f9 => ?_)
  · refine pv_then1 ?_
    exact pv_zreturn (pc := 90) rfl (by first | exact Or.inr rfl | exact Or.inl rfl) (fm_dec dtX9_performStep 40 rfl) (hn hp)
  · refine pv_then1 ?_
    exact pv_zreturn (pc := 90) rfl (by first | exact Or.inr rfl | exact Or.inl rfl) (fm_dec dtX9_performStep 40 rfl) (hq M9 S9 hp h9 f9)
theorem c_xps {M : fmM} {Q : fmR → fmM → Prop} {D : dD} {cs : tC} {S : aS} {k i : Nat} {x z : Int32} (hx : x.toInt = (k : Int)) (hz : z.toInt = (i : Int)) (hk : k < 4) (hi8 : i < 1000) (hD : dOk D) (hX : xdw 3 M D) (hL : lwX M cs) (hs : xst M D S) (ho : stO D S) (hi : k < 3 → i < D.1) (hn : doS D cs S k i = none → Q (.inl (some (.int 0))) M) (hq : ∀ (M' : fmM) (S' : aS), doS D cs S k i = some S' → xst M' D S' → sFr M M' → Q (.inl (some (.int 1))) M') : pvGood Tx 5 qX9_performStep [.ref 32, .ref 47, .int x, .int z] M Q := by
  have ez : z = nI i := nI_is hz (by omega)
  subst ez
  match k, hk, hx, hi, hn, hq with
  | 0, _, hx, hi, hn, hq =>
    have ex : x = 0 := i32_ext (hx.trans (by decide))
    subst ex
    exact c_xps0 hD hX hL hs ho (hi (by decide)) hn hq
  | 1, _, hx, hi, hn, hq =>
    have ex : x = 1 := i32_ext (hx.trans (by decide))
    subst ex
    exact c_xps1 hD hX hL hs ho (hi (by decide)) hn hq
  | 2, _, hx, hi, hn, hq =>
    have ex : x = 2 := i32_ext (hx.trans (by decide))
    subst ex
    exact c_xps2 hD hX hL hs ho (hi (by decide)) hn hq
  | 3, _, hx, hi, hn, hq =>
    have ex : x = 3 := i32_ext (hx.trans (by decide))
    subst ex
    exact c_xps3 hD hX hL hs ho hn hq
  | k + 4, h, _, _, _, _ => omega
