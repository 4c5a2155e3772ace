-- P 18n
section
-- THE CLASS WORKS A LAW OUT
/-- codes that can be, by how high the stack stands, never above B -/
def dpB (B : Nat) : Nat → tC → Option Nat
  | d, [] => some d
  | d, c :: cs => if c.1 < 2 then (if d < B ∧ ((c.1 = 0 ∧ c.2 ≤ 999) ∨ (c.1 = 1 ∧ c.2 ≤ 4)) then dpB B (d + 1) cs else none) else (if 2 ≤ d ∧ c.1 ≤ 7 then dpB B (d - 1) cs else none)
theorem dpB_app (B : Nat) : ∀ (cs ds : tC) (d e : Nat), dpB B d cs = some e → dpB B d (cs ++ ds) = dpB B e ds
  | [], ds, d, e, h => by
    cases h
    rfl
  | c :: cs, ds, d, e, h => by
    simp only [dpB, List.cons_append] at h ⊢
    split at h
    · rename_i h1
      rw [if_pos h1]
      split at h
      · rename_i h2
        rw [if_pos h2]
        exact dpB_app B cs ds _ _ h
      · cases h
    · rename_i h1
      rw [if_neg h1]
      split at h
      · rename_i h2
        rw [if_pos h2]
        exact dpB_app B cs ds _ _ h
      · cases h
theorem spNum_hi {tx : tX} {lo hi : Int} {p v q : Nat} (h : spNum tx lo hi p = .inr (v, q)) : (v : Int) ≤ hi := by
  unfold spNum at h
  split at h
  · split at h
    · rename_i h2
      cases h
      rw [Bool.and_eq_true] at h2
      exact of_decide_eq_true h2.2
    · cases h
  · cases h
def rq (md o : Nat) : Nat := 3 * (6 - o) + (if md = 2 then 1 else if md = 1 ∨ 4 ≤ md then 2 else 3)
theorem spL_dpB {tx : tX} : ∀ (f md o p q : Nat) (cs : tC), o ≤ 6 → spL tx f md o p = .inr (cs, q) → ∀ d B, d + rq md o ≤ B → (md < 3 → dpB B d cs = some (d + 1)) ∧ (3 ≤ md → dpB B (d + 1) cs = some (d + 1)) := by
  intro f
  induction f with
  | zero => intro md o p q cs _ h; cases h
  | succ f ih =>
    have app : ∀ (m1 m2 o p q R : Nat) (cs : tC), o ≤ 6 → m1 < 3 → 3 ≤ m2 → rq m1 o ≤ R → rq m2 o ≤ R → spApp (spL tx f m1 o p) (fun q => spL tx f m2 o q) = .inr (cs, q) → ∀ d B, d + R ≤ B → dpB B d cs = some (d + 1) := by
      intro m1 m2 o p q R cs ho h1 h2 r1 r2 h d B hB
      obtain ⟨c1, q1, e1, h⟩ := spBind_ok h
      obtain ⟨c2, q2, e2, h⟩ := spBind_ok h
      cases h
      rw [dpB_app _ _ _ _ _ ((ih _ _ _ _ _ ho e1 d B (by omega)).1 h1)]
      exact (ih _ _ _ _ _ ho e2 d B (by omega)).2 h2
    have op : ∀ (c m1 m2 o p q R : Nat) (cs : tC), o ≤ 6 → 2 ≤ c → c ≤ 7 → m1 < 3 → 3 ≤ m2 → rq m1 o + 1 ≤ R → rq m2 o ≤ R → spOp c (spL tx f m1 o p) (fun q => spL tx f m2 o q) = .inr (cs, q) → ∀ d B, d + R ≤ B → dpB B (d + 1) cs = some (d + 1) := by
      intro c m1 m2 o p q R cs ho hc hc7 h1 h2 r1 r2 h d B hB
      obtain ⟨c1, q1, e1, h⟩ := spBind_ok h
      obtain ⟨c2, q2, e2, h⟩ := spBind_ok h
      cases h
      rw [dpB_app _ _ _ _ _ ((ih _ _ _ _ _ ho e1 (d + 1) B (by omega)).1 h1)]
      simp only [dpB]
      rw [if_neg (by omega), if_pos (by omega)]
      exact (ih _ _ _ _ _ ho e2 d B (by omega)).2 h2
    have lp : ∀ (c1 c2 : Int) (k1 k2 m1 m2 o a q R : Nat) (cs : tC), o ≤ 6 → 2 ≤ k1 → k1 ≤ 7 → 2 ≤ k2 → k2 ≤ 7 → m1 < 3 → 3 ≤ m2 → rq m1 o + 1 ≤ R → rq m2 o ≤ R → spLp tx c1 c2 k1 k2 a (fun q => spL tx f m1 o q) (fun q => spL tx f m2 o q) = .inr (cs, q) → ∀ d B, d + R ≤ B → dpB B (d + 1) cs = some (d + 1) := by
      intro c1 c2 k1 k2 m1 m2 o a q R cs ho hk1 hk1' hk2 hk2' h1 h2 r1 r2 h d B hB
      unfold spLp at h
      split at h
      · exact op _ _ _ _ _ _ _ _ ho hk1 hk1' h1 h2 r1 r2 h d B hB
      · split at h
        · exact op _ _ _ _ _ _ _ _ ho hk2 hk2' h1 h2 r1 r2 h d B hB
        · cases h
          rfl
    have one : ∀ (o a q : Nat) (cs : tC), o ≤ 6 → spOne tx (fun q => spL tx f 0 (o + 1) q) o a = .inr (cs, q) → ∀ d B, d + (3 * (6 - o) + 1) ≤ B → dpB B d cs = some (d + 1) := by
      intro o a q cs ho h d B hB
      have hr : o < 6 → rq 0 (o + 1) ≤ 3 * (6 - o) := fun h6 => by
        unfold rq
        rw [if_neg (by omega), if_neg (by omega)]
        omega
      have two : ∀ c q0, o < 6 → 2 ≤ c → c ≤ 7 → spTwo tx (fun q => spL tx f 0 (o + 1) q) c q0 = .inr (cs, q) → dpB B d cs = some (d + 1) := by
        intro c q0 h6 hc hc7 h
        have hr := hr h6
        obtain ⟨u1, q1, e1, h⟩ := spBind_ok h
        obtain ⟨c2, q2, e2, h⟩ := spBind_ok h
        obtain ⟨u3, q3, e3, h⟩ := spBind_ok h
        obtain ⟨c4, q4, e4, h⟩ := spBind_ok h
        obtain ⟨u5, q5, e5, h⟩ := spBind_ok h
        cases h
        rw [List.append_assoc, dpB_app _ _ _ _ _ ((ih _ _ _ _ _ (by omega) e2 d B (by omega)).1 (by omega)), dpB_app _ _ _ _ _ ((ih _ _ _ _ _ (by omega) e4 (d + 1) B (by omega)).1 (by omega))]
        simp only [dpB]
        rw [if_neg (by omega), if_pos (by omega)]
        rfl
      unfold spOne at h
      split at h
      · split at h
        · cases h
        · exact two 6 _ (by omega) (by omega) (by omega) h
      · split at h
        · split at h
          · cases h
          · exact two 7 _ (by omega) (by omega) (by omega) h
        · split at h
          · split at h
            · cases h
            · have hr := hr (by omega)
              obtain ⟨c1, q1, e1, h⟩ := spBind_ok h
              obtain ⟨u2, q2, e2, h⟩ := spBind_ok h
              cases h
              exact (ih _ _ _ _ _ (by omega) e1 d B (by omega)).1 (by omega)
          · split at h
            · rename_i k hk
              cases h
              have : k ≤ 4 := by
                unfold lwK at hk
                repeat' split at hk
                all_goals (cases hk; try omega)
              show (if (1 : Nat) < 2 then (if d < B ∧ (((1 : Nat) = 0 ∧ k ≤ 999) ∨ ((1 : Nat) = 1 ∧ k ≤ 4)) then dpB B (d + 1) [] else none) else _) = _
              rw [if_pos (by decide), if_pos ⟨by omega, Or.inr ⟨rfl, this⟩⟩]
              rfl
            · obtain ⟨v1, q1, e1, h⟩ := spBind_ok h
              cases h
              have h9 := spNum_hi e1
              show (if (0 : Nat) < 2 then (if d < B ∧ (((0 : Nat) = 0 ∧ v1 ≤ 999) ∨ ((0 : Nat) = 1 ∧ v1 ≤ 4)) then dpB B (d + 1) [] else none) else _) = _
              rw [if_pos (by decide), if_pos ⟨by omega, Or.inl ⟨rfl, by omega⟩⟩]
              rfl
    intro md o p q cs ho h d B hB
    unfold rq at hB
    match md with
    | 0 => exact ⟨fun _ => app 1 3 o p q (3 * (6 - o) + 3) cs ho (by omega) (by omega) (by unfold rq; simp) (by unfold rq; simp) h d B (by simpa using hB), fun h => by omega⟩
    | 1 => exact ⟨fun _ => app 2 4 o p q (3 * (6 - o) + 2) cs ho (by omega) (by omega) (by unfold rq; simp) (by unfold rq; simp) h d B (by simpa using hB), fun h => by omega⟩
    | 2 => exact ⟨fun _ => one o (sk tx p) q cs ho h d B (by simpa using hB), fun h => by omega⟩
    | 3 => exact ⟨fun h => by omega, fun _ => lp 43 45 2 3 1 3 o (sk tx p) q (3 * (6 - o) + 3) cs ho (by omega) (by omega) (by omega) (by omega) (by omega) (by omega) (by unfold rq; simp) (by unfold rq; simp) h d B (by simpa using hB)⟩
    | md + 4 => exact ⟨fun h => by omega, fun _ => lp 42 47 4 5 2 4 o (sk tx p) q (3 * (6 - o) + 2) cs ho (by omega) (by omega) (by omega) (by omega) (by omega) (by omega) (by unfold rq; simp) (by unfold rq; simp) h d B (by rw [if_neg (by omega), if_pos (by omega)] at hB; exact hB)⟩
theorem spLaw_dpB {tx : tX} {n : Nat} {cs : tC} (h : spLaw tx n = .inr cs) : dpB 23 0 cs = some 1 := by
  unfold spLaw at h
  split at h
  · cases h
  · rename_i cs9 q9 e
    split at h
    · cases h
    · cases h
      exact (spL_dpB 700 0 0 _ _ _ (by decide) e 0 23 (by decide)).1 (by decide)
theorem div_m1 (u : Int32) : u / (-1) = -u := by
  apply i32_ext
  have e : (-1 : Int32).toInt = -1 := by decide
  rw [Int32.toInt_div, e, Int32.toInt_neg, Int.tdiv_neg, Int.tdiv_one]
def knF (a b c d e : Int32) (j : Nat) : Int32 := [a, b, c, d, e].getD j 0
theorem tsw_x {x : Int32} (h : 0 ≤ x.toInt) : fmTsw 82 91 (-5) (-1) #[79, 67, 56, 45, 34] x = (173 : Int) := by
  unfold fmTsw
  rw [if_pos (by omega)]
  rfl
set_option maxRecDepth 20000 in
theorem jo_2 {M : fmM} {Q : fmR → fmM → Prop} {u v : Int32} (hq : Q (.inl (some (.int (u + v)))) M) : pvGood Tx 0 qX1_joined [.int (-8), .int u, .int v] M Q := by
  refine pvGood_of (Nat.le_of_ble_eq_true rfl) ?_
  show pvEv Tx 0 qX1_joined 0 [some (.int (-8)), some (.int u), some (.int v)] [] M Q
  refine pv_iloadn (pc := 0) (n := 0) 0 rfl rfl (fm_dec dtX1_joined 0 rfl) ?_
  refine pv_table (pc := 1) 58 (by decide) rfl (fm_dec dtX1_joined 1 rfl) ?_
  refine pv_iloadn (pc := 58) (n := 1) 1 rfl rfl (fm_dec dtX1_joined 16 rfl) ?_
  refine pv_iloadn (pc := 59) (n := 2) 2 rfl rfl (fm_dec dtX1_joined 17 rfl) ?_
  refine pv_iadd (pc := 60) (fm_dec dtX1_joined 18 rfl) ?_
  exact pv_ireturn (pc := 61) rfl (fm_dec dtX1_joined 19 rfl) hq
set_option maxRecDepth 20000 in
theorem jo_3 {M : fmM} {Q : fmR → fmM → Prop} {u v : Int32} (hq : Q (.inl (some (.int (u - v)))) M) : pvGood Tx 0 qX1_joined [.int (-9), .int u, .int v] M Q := by
  refine pvGood_of (Nat.le_of_ble_eq_true rfl) ?_
  show pvEv Tx 0 qX1_joined 0 [some (.int (-9)), some (.int u), some (.int v)] [] M Q
  refine pv_iloadn (pc := 0) (n := 0) 0 rfl rfl (fm_dec dtX1_joined 0 rfl) ?_
  refine pv_table (pc := 1) 62 (by decide) rfl (fm_dec dtX1_joined 1 rfl) ?_
  refine pv_iloadn (pc := 62) (n := 1) 1 rfl rfl (fm_dec dtX1_joined 20 rfl) ?_
  refine pv_iloadn (pc := 63) (n := 2) 2 rfl rfl (fm_dec dtX1_joined 21 rfl) ?_
  refine pv_isub (pc := 64) (fm_dec dtX1_joined 22 rfl) ?_
  exact pv_ireturn (pc := 65) rfl (fm_dec dtX1_joined 23 rfl) hq
set_option maxRecDepth 20000 in
theorem jo_4 {M : fmM} {Q : fmR → fmM → Prop} {u v : Int32} (hq : Q (.inl (some (.int (u * v)))) M) : pvGood Tx 0 qX1_joined [.int (-10), .int u, .int v] M Q := by
  refine pvGood_of (Nat.le_of_ble_eq_true rfl) ?_
  show pvEv Tx 0 qX1_joined 0 [some (.int (-10)), some (.int u), some (.int v)] [] M Q
  refine pv_iloadn (pc := 0) (n := 0) 0 rfl rfl (fm_dec dtX1_joined 0 rfl) ?_
  refine pv_table (pc := 1) 66 (by decide) rfl (fm_dec dtX1_joined 1 rfl) ?_
  refine pv_iloadn (pc := 66) (n := 1) 1 rfl rfl (fm_dec dtX1_joined 24 rfl) ?_
  refine pv_iloadn (pc := 67) (n := 2) 2 rfl rfl (fm_dec dtX1_joined 25 rfl) ?_
  refine pv_imul (pc := 68) (fm_dec dtX1_joined 26 rfl) ?_
  exact pv_ireturn (pc := 69) rfl (fm_dec dtX1_joined 27 rfl) hq
set_option maxRecDepth 20000 in
theorem jo_5 {M : fmM} {Q : fmR → fmM → Prop} {u v : Int32} (hq : Q (.inl (some (.int ((if v = 0 then 0 else if v = -1 then -u else u / v))))) M) : pvGood Tx 0 qX1_joined [.int (-11), .int u, .int v] M Q := by
  refine pvGood_of (Nat.le_of_ble_eq_true rfl) ?_
  show pvEv Tx 0 qX1_joined 0 [some (.int (-11)), some (.int u), some (.int v)] [] M Q
  refine pv_iloadn (pc := 0) (n := 0) 0 rfl rfl (fm_dec dtX1_joined 0 rfl) ?_
  refine pv_table (pc := 1) 70 (by decide) rfl (fm_dec dtX1_joined 1 rfl) ?_
  refine pv_iloadn (pc := 70) (n := 2) 2 rfl rfl (fm_dec dtX1_joined 28 rfl) ?_
  refine pv_if_ne (pc := 71) 78 (by decide) (fm_dec dtX1_joined 29 rfl) (fun hc71 => ?_) (fun hc71 => ?_)
  · refine pv_iloadn (pc := 78) (n := 1) 1 rfl rfl (fm_dec dtX1_joined 32 rfl) ?_
    refine pv_iloadn (pc := 79) (n := 2) 2 rfl rfl (fm_dec dtX1_joined 33 rfl) ?_
    refine pv_idiv (pc := 80) (fun h9 => hc71 h9) (fm_dec dtX1_joined 34 rfl) ?_
    exact pv_ireturn (pc := 81) rfl (fm_dec dtX1_joined 35 rfl) (by first | (rw [if_pos hc71] at hq; exact hq) | (rw [if_neg hc71] at hq; by_cases e9 : v = -1; (rw [if_pos e9] at hq; rw [e9, div_m1]; exact hq); (rw [if_neg e9] at hq; exact hq)))
  · refine pv_iconst (pc := 74) (v := 0) (by decide) (fm_dec dtX1_joined 30 rfl) ?_
    refine pv_goto (pc := 75) 81 (by decide) (fm_dec dtX1_joined 31 rfl) ?_
    exact pv_ireturn (pc := 81) rfl (fm_dec dtX1_joined 35 rfl) (by first | (rw [if_pos hc71] at hq; exact hq) | (rw [if_neg hc71] at hq; by_cases e9 : v = -1; (rw [if_pos e9] at hq; rw [e9, div_m1]; exact hq); (rw [if_neg e9] at hq; exact hq)))
set_option maxRecDepth 20000 in
theorem jo_6 {M : fmM} {Q : fmR → fmM → Prop} {u v : Int32} (hq : Q (.inl (some (.int (pvMx false u v)))) M) : pvGood Tx 0 qX1_joined [.int (-6), .int u, .int v] M Q := by
  refine pvGood_of (Nat.le_of_ble_eq_true rfl) ?_
  show pvEv Tx 0 qX1_joined 0 [some (.int (-6)), some (.int u), some (.int v)] [] M Q
  refine pv_iloadn (pc := 0) (n := 0) 0 rfl rfl (fm_dec dtX1_joined 0 rfl) ?_
  refine pv_table (pc := 1) 36 (by decide) rfl (fm_dec dtX1_joined 1 rfl) ?_
  refine pv_iloadn (pc := 36) (n := 1) 1 rfl rfl (fm_dec dtX1_joined 2 rfl) ?_
  refine pv_iloadn (pc := 37) (n := 2) 2 rfl rfl (fm_dec dtX1_joined 3 rfl) ?_
  refine pv_icmp_ge (pc := 38) 45 (by decide) (fm_dec dtX1_joined 4 rfl) (fun hc38 => ?_) (fun hc38 => ?_)
  · refine pv_iloadn (pc := 45) (n := 2) 2 rfl rfl (fm_dec dtX1_joined 7 rfl) ?_
    exact pv_ireturn (pc := 46) rfl (fm_dec dtX1_joined 8 rfl) (by have e9 : pvMx false u v = (if u.toInt ≤ v.toInt then u else v) := rfl; first | (rw [e9, if_pos (by rw [sc_le] at hc38; omega)] at hq; exact hq) | (rw [e9] at hq; by_cases h8 : u.toInt ≤ v.toInt; (have h7 : u = v := i32_ext (by rw [sc_le] at hc38; omega); rw [if_pos h8, h7] at hq; exact hq); (rw [if_neg h8] at hq; exact hq)))
  · refine pv_iloadn (pc := 41) (n := 1) 1 rfl rfl (fm_dec dtX1_joined 5 rfl) ?_
    refine pv_goto (pc := 42) 46 (by decide) (fm_dec dtX1_joined 6 rfl) ?_
    exact pv_ireturn (pc := 46) rfl (fm_dec dtX1_joined 8 rfl) (by have e9 : pvMx false u v = (if u.toInt ≤ v.toInt then u else v) := rfl; first | (rw [e9, if_pos (by rw [sc_le] at hc38; omega)] at hq; exact hq) | (rw [e9] at hq; by_cases h8 : u.toInt ≤ v.toInt; (have h7 : u = v := i32_ext (by rw [sc_le] at hc38; omega); rw [if_pos h8, h7] at hq; exact hq); (rw [if_neg h8] at hq; exact hq)))
set_option maxRecDepth 20000 in
theorem jo_7 {M : fmM} {Q : fmR → fmM → Prop} {u v : Int32} (hq : Q (.inl (some (.int (pvMx true u v)))) M) : pvGood Tx 0 qX1_joined [.int (-7), .int u, .int v] M Q := by
  refine pvGood_of (Nat.le_of_ble_eq_true rfl) ?_
  show pvEv Tx 0 qX1_joined 0 [some (.int (-7)), some (.int u), some (.int v)] [] M Q
  refine pv_iloadn (pc := 0) (n := 0) 0 rfl rfl (fm_dec dtX1_joined 0 rfl) ?_
  refine pv_table (pc := 1) 47 (by decide) rfl (fm_dec dtX1_joined 1 rfl) ?_
  refine pv_iloadn (pc := 47) (n := 1) 1 rfl rfl (fm_dec dtX1_joined 9 rfl) ?_
  refine pv_iloadn (pc := 48) (n := 2) 2 rfl rfl (fm_dec dtX1_joined 10 rfl) ?_
  refine pv_icmp_le (pc := 49) 56 (by decide) (fm_dec dtX1_joined 11 rfl) (fun hc49 => ?_) (fun hc49 => ?_)
  · refine pv_iloadn (pc := 56) (n := 2) 2 rfl rfl (fm_dec dtX1_joined 14 rfl) ?_
    exact pv_ireturn (pc := 57) rfl (fm_dec dtX1_joined 15 rfl) (by have e9 : pvMx true u v = (if u.toInt ≤ v.toInt then v else u) := rfl; first | (rw [e9, if_neg (by rw [sc_le] at hc49; omega)] at hq; exact hq) | (rw [e9, if_pos (by rw [sc_le] at hc49; omega)] at hq; exact hq))
  · refine pv_iloadn (pc := 52) (n := 1) 1 rfl rfl (fm_dec dtX1_joined 12 rfl) ?_
    refine pv_goto (pc := 53) 57 (by decide) (fm_dec dtX1_joined 13 rfl) ?_
    exact pv_ireturn (pc := 57) rfl (fm_dec dtX1_joined 15 rfl) (by have e9 : pvMx true u v = (if u.toInt ≤ v.toInt then v else u) := rfl; first | (rw [e9, if_neg (by rw [sc_le] at hc49; omega)] at hq; exact hq) | (rw [e9, if_pos (by rw [sc_le] at hc49; omega)] at hq; exact hq))
theorem c_joined {M : fmM} {Q : fmR → fmM → Prop} {x u v : Int32} {c : Nat} (h2 : 2 ≤ c) (h7 : c ≤ 7) (hx : x.toInt = cdV (c, 0)) (hq : Q (.inl (some (.int (opV c u v)))) M) : pvGood Tx 0 qX1_joined [.int x, .int u, .int v] M Q := by
  have hc : c = 2 ∨ c = 3 ∨ c = 4 ∨ c = 5 ∨ c = 6 ∨ c = 7 := by omega
  rcases hc with rfl | rfl | rfl | rfl | rfl | rfl
  · have e : x = (-8) := i32_ext (hx.trans (by decide))
    subst e
    exact jo_2 hq
  · have e : x = (-9) := i32_ext (hx.trans (by decide))
    subst e
    exact jo_3 hq
  · have e : x = (-10) := i32_ext (hx.trans (by decide))
    subst e
    exact jo_4 hq
  · have e : x = (-11) := i32_ext (hx.trans (by decide))
    subst e
    exact jo_5 hq
  · have e : x = (-6) := i32_ext (hx.trans (by decide))
    subst e
    exact jo_6 hq
  · have e : x = (-7) := i32_ext (hx.trans (by decide))
    subst e
    exact jo_7 hq
set_option maxRecDepth 20000 in
theorem xo_loop {Q : fmR → fmM → Prop} {cs : tC} {M0 : fmM} {a1 a2 a3 a4 a5 : Int32} (hsz : (M0.1 23 3).toInt = (cs.length : Int)) (h150 : cs.length ≤ 150) (hcd : ∀ i c, cs[i]? = some c → (M0.1 24 i).toInt = cdV c) : ∀ (m : Nat) (M : fmM) (i d : Nat) (tp ii : Int32) (v8 : Option Value), cs.length - i = m → i ≤ cs.length → ii.toInt = (i : Int) → tp.toInt = (d : Int) → d ≤ 23 → dpB 23 d (cs.drop i) = some 1 → (∀ k j, k ≠ 26 → M.1 k j = M0.1 k j) → M.2 = M0.2 → (∀ (M' : fmM) (tp' ii' : Int32) (v8' : Option Value), (∀ k j, k ≠ 26 → M'.1 k j = M0.1 k j) → M'.2 = M0.2 → M'.1 26 0 = lwR (knF a1 a2 a3 a4 a5) (cs.drop i) d (M.1 26) → pvEv Tx 1 qX1_outcome 191 [some (.ref 23), some (.int a1), some (.int a2), some (.int a3), some (.int a4), some (.int a5), some (.int tp'), some (.int ii'), v8'] [] M' Q) → pvEv Tx 1 qX1_outcome 6 [some (.ref 23), some (.int a1), some (.int a2), some (.int a3), some (.int a4), some (.int a5), some (.int tp), some (.int ii), v8] [] M Q := by
  intro m
  induction m using Nat.strongRecOn with
  | _ m ih =>
    intro M i d tp ii v8 hm hile hii htp hdle hdB hfr hfr2 hq
    refine pv_iload (pc := 6) (i := 7) rfl (fm_dec dtX1_outcome 4 rfl) ?_
    refine pv_aloadn (pc := 8) (n := 0) 0 rfl rfl (fm_dec dtX1_outcome 5 rfl) ?_
    refine pv_getI (k := 23) (j := 3) (ci := 1) (pc := 9) pfl_X1_24 (by decide) rfl (by decide) (fm_dec dtX1_outcome 6 rfl) ?_
    refine pv_icmp_ge (pc := 12) 191 (by decide) (fm_dec dtX1_outcome 7 rfl) (fun hc12 => ?_) (fun hc12 => ?_)
    · have hie : i = cs.length := (by rw [sc_le] at hc12; have h9 := hfr 23 3 (by decide); rw [h9] at hc12; omega)
      refine hq M tp ii _ hfr hfr2 ?_
      rw [List.drop_eq_nil_of_le (by omega)]
      rfl
    · refine pv_iload (pc := 15) (i := 6) rfl (fm_dec dtX1_outcome 8 rfl) ?_
      refine pv_bipush (pc := 17) (v := 24) (by decide) (fm_dec dtX1_outcome 9 rfl) ?_
      refine pv_icmp_ge (pc := 19) 191 (by decide) (fm_dec dtX1_outcome 10 rfl) (fun hc19 => by exfalso; rw [sc_le] at hc19; have h9 : (24 : Int32).toInt = 24 := (by decide); omega) (fun _ => ?_)
      refine pv_aloadn (pc := 22) (n := 0) 0 rfl rfl (fm_dec dtX1_outcome 11 rfl) ?_
      refine pv_getR (k := 23) (j := 0) (ci := 1) (pc := 23) 24 rfl (by decide) pfl_X1_9 (by decide) rfl (by decide) (fm_dec dtX1_outcome 12 rfl) ?_
      refine pv_iload (pc := 26) (i := 7) rfl (fm_dec dtX1_outcome 13 rfl) ?_
      refine pv_iald (k := 24) (n := 150) (pc := 28) (by decide) rfl rfl (ix_in hii (by rw [sc_le] at hc12; have h9 := hfr 23 3 (by decide); rw [h9] at hc12; omega)) (fm_dec dtX1_outcome 14 rfl) ?_
      refine pv_istore (pc := 29) (i := 8) (by decide) rfl (fm_dec dtX1_outcome 15 rfl) ?_
      dsimp only [List.set_cons_zero, List.set_cons_succ]
      have hil : i < cs.length := (by rw [sc_le] at hc12; have h9 := hfr 23 3 (by decide); rw [h9] at hc12; omega)
      have hi9 : ii.toNatClampNeg = i := i32_cl hii
      obtain ⟨c, hci⟩ : ∃ c, cs[i]? = some c := ⟨cs[i], List.getElem?_eq_getElem hil⟩
      have hdr : cs.drop i = c :: cs.drop (i + 1) := (by rw [List.drop_eq_getElem_cons hil]; congr 1; exact (List.getElem?_eq_some_iff.mp hci).2)
      have hx : (M.1 24 ii.toNatClampNeg).toInt = cdV c := (by rw [hi9, hfr 24 i (by decide)]; exact hcd i c hci)
      have hdB0 := hdB
      rw [hdr] at hdB
      simp only [dpB] at hdB
      by_cases hc2 : c.1 < 2
      · rw [if_pos hc2] at hdB
        split at hdB
        · rename_i hg
          refine pv_iload (pc := 31) (i := 8) rfl (fm_dec dtX1_outcome 16 rfl) ?_
          refine pv_bipush (pc := 33) (v := (-6)) (by decide) (fm_dec dtX1_outcome 17 rfl) ?_
          refine pv_icmp_gt (pc := 35) 80 (by decide) (fm_dec dtX1_outcome 18 rfl) (fun _ => ?_) (fun hc35 => by exfalso; rw [sc_lt] at hc35; rw [hx] at hc35; have h9 : (-6 : Int32).toInt = -6 := (by decide); apply hc35; unfold cdV; split; omega; split; omega; omega)
          have hc01 : c.1 = 0 ∨ c.1 = 1 := (by omega)
          rcases hc01 with hc0 | hc1
          · have hx0 : 0 ≤ (M.1 24 ii.toNatClampNeg).toInt := (by rw [hx]; unfold cdV; rw [if_pos hc0]; omega)
            have ev : Int32.ofInt (c.2 : Int) = M.1 24 ii.toNatClampNeg := i32_ext (by rw [hx]; unfold cdV; rw [if_pos hc0]; exact Int32.toInt_ofInt_of_le (by omega) (by omega))
            refine pv_iload (pc := 80) (i := 8) rfl (fm_dec dtX1_outcome 42 rfl) ?_
            refine pv_table (pc := 82) 173 (by decide) (tsw_x hx0) (fm_dec dtX1_outcome 43 rfl) ?_
            refine pv_aloadn (pc := 173) (n := 0) 0 rfl rfl (fm_dec dtX1_outcome 74 rfl) ?_
            refine pv_getR (k := 23) (j := 2) (ci := 1) (pc := 174) 26 rfl (by decide) pfl_X1_18 (by decide) rfl (by decide) (fm_dec dtX1_outcome 75 rfl) ?_
            refine pv_iload (pc := 177) (i := 6) rfl (fm_dec dtX1_outcome 76 rfl) ?_
            refine pv_iload (pc := 179) (i := 8) rfl (fm_dec dtX1_outcome 77 rfl) ?_
            refine pv_iast (k := 26) (n := 24) (pc := 181) (by decide) rfl rfl (ix_in htp (by omega)) (fm_dec dtX1_outcome 78 rfl) ?_
            refine pv_iincc (pc := 182) 6 1 (by decide) rfl (by decide) rfl (fm_dec dtX1_outcome 79 rfl) ?_
            dsimp only [List.set_cons_zero, List.set_cons_succ]
            refine pv_iincc (pc := 185) 7 1 (by decide) rfl (by decide) rfl (fm_dec dtX1_outcome 80 rfl) ?_
            dsimp only [List.set_cons_zero, List.set_cons_succ]
            refine pv_goto (pc := 188) 6 (by decide) (fm_dec dtX1_outcome 81 rfl) ?_
            rw [i32_cl htp]
            have eL : lwR (knF a1 a2 a3 a4 a5) (cs.drop i) d (M.1 26) = lwR (knF a1 a2 a3 a4 a5) (cs.drop (i + 1)) (d + 1) ((fmI M 26 d (M.1 24 ii.toNatClampNeg)).1 26) := (by rw [hdr, fmI_row]; simp only [lwR]; rw [if_pos hc2, if_pos hc0, ev])
            exact ih (cs.length - (i + 1)) (by omega) _ (i + 1) (d + 1) _ _ _ rfl hil (i32_p1 hii (by omega)) (i32_p1 htp (by omega)) (by omega) hdB (fun k j h => (by rw [fmI_k _ _ h]; exact hfr k j h)) hfr2 (fun M9 tp9 ii9 v9 g1 g2 g3 => hq M9 tp9 ii9 v9 g1 g2 (g3.trans eL.symm))
          · have hc5 : c.2 = 0 ∨ c.2 = 1 ∨ c.2 = 2 ∨ c.2 = 3 ∨ c.2 = 4 := (by omega)
            rcases hc5 with e5 | e5 | e5 | e5 | e5
            · have ex : M.1 24 ii.toNatClampNeg = (-1) := i32_ext (by rw [hx]; unfold cdV; rw [if_neg (by omega), if_pos hc1, e5]; decide)
              rw [ex]
              refine pv_iload (pc := 80) (i := 8) rfl (fm_dec dtX1_outcome 42 rfl) ?_
              refine pv_table (pc := 82) 116 (by decide) rfl (fm_dec dtX1_outcome 43 rfl) ?_
              refine pv_aloadn (pc := 116) (n := 0) 0 rfl rfl (fm_dec dtX1_outcome 44 rfl) ?_
              refine pv_getR (k := 23) (j := 2) (ci := 1) (pc := 117) 26 rfl (by decide) pfl_X1_18 (by decide) rfl (by decide) (fm_dec dtX1_outcome 45 rfl) ?_
              refine pv_iload (pc := 120) (i := 6) rfl (fm_dec dtX1_outcome 46 rfl) ?_
              refine pv_iloadn (pc := 122) (n := 1) 1 rfl rfl (fm_dec dtX1_outcome 47 rfl) ?_
              refine pv_iast (k := 26) (n := 24) (pc := 123) (by decide) rfl rfl (ix_in htp (by omega)) (fm_dec dtX1_outcome 48 rfl) ?_
              refine pv_goto (pc := 124) 182 (by decide) (fm_dec dtX1_outcome 49 rfl) ?_
              refine pv_iincc (pc := 182) 6 1 (by decide) rfl (by decide) rfl (fm_dec dtX1_outcome 79 rfl) ?_
              dsimp only [List.set_cons_zero, List.set_cons_succ]
              refine pv_iincc (pc := 185) 7 1 (by decide) rfl (by decide) rfl (fm_dec dtX1_outcome 80 rfl) ?_
              dsimp only [List.set_cons_zero, List.set_cons_succ]
              refine pv_goto (pc := 188) 6 (by decide) (fm_dec dtX1_outcome 81 rfl) ?_
              rw [i32_cl htp]
              have eL : lwR (knF a1 a2 a3 a4 a5) (cs.drop i) d (M.1 26) = lwR (knF a1 a2 a3 a4 a5) (cs.drop (i + 1)) (d + 1) ((fmI M 26 d a1).1 26) := (by rw [hdr, fmI_row]; simp only [lwR]; rw [if_pos hc2, if_neg (by omega), e5]; rfl)
              exact ih (cs.length - (i + 1)) (by omega) _ (i + 1) (d + 1) _ _ _ rfl hil (i32_p1 hii (by omega)) (i32_p1 htp (by omega)) (by omega) hdB (fun k j h => (by rw [fmI_k _ _ h]; exact hfr k j h)) hfr2 (fun M9 tp9 ii9 v9 g1 g2 g3 => hq M9 tp9 ii9 v9 g1 g2 (g3.trans eL.symm))
            · have ex : M.1 24 ii.toNatClampNeg = (-2) := i32_ext (by rw [hx]; unfold cdV; rw [if_neg (by omega), if_pos hc1, e5]; decide)
              rw [ex]
              refine pv_iload (pc := 80) (i := 8) rfl (fm_dec dtX1_outcome 42 rfl) ?_
              refine pv_table (pc := 82) 127 (by decide) rfl (fm_dec dtX1_outcome 43 rfl) ?_
              refine pv_aloadn (pc := 127) (n := 0) 0 rfl rfl (fm_dec dtX1_outcome 50 rfl) ?_
              refine pv_getR (k := 23) (j := 2) (ci := 1) (pc := 128) 26 rfl (by decide) pfl_X1_18 (by decide) rfl (by decide) (fm_dec dtX1_outcome 51 rfl) ?_
              refine pv_iload (pc := 131) (i := 6) rfl (fm_dec dtX1_outcome 52 rfl) ?_
              refine pv_iloadn (pc := 133) (n := 2) 2 rfl rfl (fm_dec dtX1_outcome 53 rfl) ?_
              refine pv_iast (k := 26) (n := 24) (pc := 134) (by decide) rfl rfl (ix_in htp (by omega)) (fm_dec dtX1_outcome 54 rfl) ?_
              refine pv_goto (pc := 135) 182 (by decide) (fm_dec dtX1_outcome 55 rfl) ?_
              refine pv_iincc (pc := 182) 6 1 (by decide) rfl (by decide) rfl (fm_dec dtX1_outcome 79 rfl) ?_
              dsimp only [List.set_cons_zero, List.set_cons_succ]
              refine pv_iincc (pc := 185) 7 1 (by decide) rfl (by decide) rfl (fm_dec dtX1_outcome 80 rfl) ?_
              dsimp only [List.set_cons_zero, List.set_cons_succ]
              refine pv_goto (pc := 188) 6 (by decide) (fm_dec dtX1_outcome 81 rfl) ?_
              rw [i32_cl htp]
              have eL : lwR (knF a1 a2 a3 a4 a5) (cs.drop i) d (M.1 26) = lwR (knF a1 a2 a3 a4 a5) (cs.drop (i + 1)) (d + 1) ((fmI M 26 d a2).1 26) := (by rw [hdr, fmI_row]; simp only [lwR]; rw [if_pos hc2, if_neg (by omega), e5]; rfl)
              exact ih (cs.length - (i + 1)) (by omega) _ (i + 1) (d + 1) _ _ _ rfl hil (i32_p1 hii (by omega)) (i32_p1 htp (by omega)) (by omega) hdB (fun k j h => (by rw [fmI_k _ _ h]; exact hfr k j h)) hfr2 (fun M9 tp9 ii9 v9 g1 g2 g3 => hq M9 tp9 ii9 v9 g1 g2 (g3.trans eL.symm))
            · have ex : M.1 24 ii.toNatClampNeg = (-3) := i32_ext (by rw [hx]; unfold cdV; rw [if_neg (by omega), if_pos hc1, e5]; decide)
              rw [ex]
              refine pv_iload (pc := 80) (i := 8) rfl (fm_dec dtX1_outcome 42 rfl) ?_
              refine pv_table (pc := 82) 138 (by decide) rfl (fm_dec dtX1_outcome 43 rfl) ?_
              refine pv_aloadn (pc := 138) (n := 0) 0 rfl rfl (fm_dec dtX1_outcome 56 rfl) ?_
              refine pv_getR (k := 23) (j := 2) (ci := 1) (pc := 139) 26 rfl (by decide) pfl_X1_18 (by decide) rfl (by decide) (fm_dec dtX1_outcome 57 rfl) ?_
              refine pv_iload (pc := 142) (i := 6) rfl (fm_dec dtX1_outcome 58 rfl) ?_
              refine pv_iloadn (pc := 144) (n := 3) 3 rfl rfl (fm_dec dtX1_outcome 59 rfl) ?_
              refine pv_iast (k := 26) (n := 24) (pc := 145) (by decide) rfl rfl (ix_in htp (by omega)) (fm_dec dtX1_outcome 60 rfl) ?_
              refine pv_goto (pc := 146) 182 (by decide) (fm_dec dtX1_outcome 61 rfl) ?_
              refine pv_iincc (pc := 182) 6 1 (by decide) rfl (by decide) rfl (fm_dec dtX1_outcome 79 rfl) ?_
              dsimp only [List.set_cons_zero, List.set_cons_succ]
              refine pv_iincc (pc := 185) 7 1 (by decide) rfl (by decide) rfl (fm_dec dtX1_outcome 80 rfl) ?_
              dsimp only [List.set_cons_zero, List.set_cons_succ]
              refine pv_goto (pc := 188) 6 (by decide) (fm_dec dtX1_outcome 81 rfl) ?_
              rw [i32_cl htp]
              have eL : lwR (knF a1 a2 a3 a4 a5) (cs.drop i) d (M.1 26) = lwR (knF a1 a2 a3 a4 a5) (cs.drop (i + 1)) (d + 1) ((fmI M 26 d a3).1 26) := (by rw [hdr, fmI_row]; simp only [lwR]; rw [if_pos hc2, if_neg (by omega), e5]; rfl)
              exact ih (cs.length - (i + 1)) (by omega) _ (i + 1) (d + 1) _ _ _ rfl hil (i32_p1 hii (by omega)) (i32_p1 htp (by omega)) (by omega) hdB (fun k j h => (by rw [fmI_k _ _ h]; exact hfr k j h)) hfr2 (fun M9 tp9 ii9 v9 g1 g2 g3 => hq M9 tp9 ii9 v9 g1 g2 (g3.trans eL.symm))
            · have ex : M.1 24 ii.toNatClampNeg = (-4) := i32_ext (by rw [hx]; unfold cdV; rw [if_neg (by omega), if_pos hc1, e5]; decide)
              rw [ex]
              refine pv_iload (pc := 80) (i := 8) rfl (fm_dec dtX1_outcome 42 rfl) ?_
              refine pv_table (pc := 82) 149 (by decide) rfl (fm_dec dtX1_outcome 43 rfl) ?_
              refine pv_aloadn (pc := 149) (n := 0) 0 rfl rfl (fm_dec dtX1_outcome 62 rfl) ?_
              refine pv_getR (k := 23) (j := 2) (ci := 1) (pc := 150) 26 rfl (by decide) pfl_X1_18 (by decide) rfl (by decide) (fm_dec dtX1_outcome 63 rfl) ?_
              refine pv_iload (pc := 153) (i := 6) rfl (fm_dec dtX1_outcome 64 rfl) ?_
              refine pv_iload (pc := 155) (i := 4) rfl (fm_dec dtX1_outcome 65 rfl) ?_
              refine pv_iast (k := 26) (n := 24) (pc := 157) (by decide) rfl rfl (ix_in htp (by omega)) (fm_dec dtX1_outcome 66 rfl) ?_
              refine pv_goto (pc := 158) 182 (by decide) (fm_dec dtX1_outcome 67 rfl) ?_
              refine pv_iincc (pc := 182) 6 1 (by decide) rfl (by decide) rfl (fm_dec dtX1_outcome 79 rfl) ?_
              dsimp only [List.set_cons_zero, List.set_cons_succ]
              refine pv_iincc (pc := 185) 7 1 (by decide) rfl (by decide) rfl (fm_dec dtX1_outcome 80 rfl) ?_
              dsimp only [List.set_cons_zero, List.set_cons_succ]
              refine pv_goto (pc := 188) 6 (by decide) (fm_dec dtX1_outcome 81 rfl) ?_
              rw [i32_cl htp]
              have eL : lwR (knF a1 a2 a3 a4 a5) (cs.drop i) d (M.1 26) = lwR (knF a1 a2 a3 a4 a5) (cs.drop (i + 1)) (d + 1) ((fmI M 26 d a4).1 26) := (by rw [hdr, fmI_row]; simp only [lwR]; rw [if_pos hc2, if_neg (by omega), e5]; rfl)
              exact ih (cs.length - (i + 1)) (by omega) _ (i + 1) (d + 1) _ _ _ rfl hil (i32_p1 hii (by omega)) (i32_p1 htp (by omega)) (by omega) hdB (fun k j h => (by rw [fmI_k _ _ h]; exact hfr k j h)) hfr2 (fun M9 tp9 ii9 v9 g1 g2 g3 => hq M9 tp9 ii9 v9 g1 g2 (g3.trans eL.symm))
            · have ex : M.1 24 ii.toNatClampNeg = (-5) := i32_ext (by rw [hx]; unfold cdV; rw [if_neg (by omega), if_pos hc1, e5]; decide)
              rw [ex]
              refine pv_iload (pc := 80) (i := 8) rfl (fm_dec dtX1_outcome 42 rfl) ?_
              refine pv_table (pc := 82) 161 (by decide) rfl (fm_dec dtX1_outcome 43 rfl) ?_
              refine pv_aloadn (pc := 161) (n := 0) 0 rfl rfl (fm_dec dtX1_outcome 68 rfl) ?_
              refine pv_getR (k := 23) (j := 2) (ci := 1) (pc := 162) 26 rfl (by decide) pfl_X1_18 (by decide) rfl (by decide) (fm_dec dtX1_outcome 69 rfl) ?_
              refine pv_iload (pc := 165) (i := 6) rfl (fm_dec dtX1_outcome 70 rfl) ?_
              refine pv_iload (pc := 167) (i := 5) rfl (fm_dec dtX1_outcome 71 rfl) ?_
              refine pv_iast (k := 26) (n := 24) (pc := 169) (by decide) rfl rfl (ix_in htp (by omega)) (fm_dec dtX1_outcome 72 rfl) ?_
              refine pv_goto (pc := 170) 182 (by decide) (fm_dec dtX1_outcome 73 rfl) ?_
              refine pv_iincc (pc := 182) 6 1 (by decide) rfl (by decide) rfl (fm_dec dtX1_outcome 79 rfl) ?_
              dsimp only [List.set_cons_zero, List.set_cons_succ]
              refine pv_iincc (pc := 185) 7 1 (by decide) rfl (by decide) rfl (fm_dec dtX1_outcome 80 rfl) ?_
              dsimp only [List.set_cons_zero, List.set_cons_succ]
              refine pv_goto (pc := 188) 6 (by decide) (fm_dec dtX1_outcome 81 rfl) ?_
              rw [i32_cl htp]
              have eL : lwR (knF a1 a2 a3 a4 a5) (cs.drop i) d (M.1 26) = lwR (knF a1 a2 a3 a4 a5) (cs.drop (i + 1)) (d + 1) ((fmI M 26 d a5).1 26) := (by rw [hdr, fmI_row]; simp only [lwR]; rw [if_pos hc2, if_neg (by omega), e5]; rfl)
              exact ih (cs.length - (i + 1)) (by omega) _ (i + 1) (d + 1) _ _ _ rfl hil (i32_p1 hii (by omega)) (i32_p1 htp (by omega)) (by omega) hdB (fun k j h => (by rw [fmI_k _ _ h]; exact hfr k j h)) hfr2 (fun M9 tp9 ii9 v9 g1 g2 g3 => hq M9 tp9 ii9 v9 g1 g2 (g3.trans eL.symm))
        · cases hdB
      · rw [if_neg hc2] at hdB
        split at hdB
        · rename_i hg
          have hx2 : (M.1 24 ii.toNatClampNeg).toInt = cdV (c.1, 0) := (by have e0 : ¬ c.1 = 0 := (by omega); have e1 : ¬ c.1 = 1 := (by omega); rw [hx]; unfold cdV; simp only [if_neg e0, if_neg e1])
          have hd1 : (tp + -1).toInt = ((d - 1 : Nat) : Int) := sub1 htp hg.1 (by omega)
          have hd2 : (tp + -1 - 1).toInt = ((d - 2 : Nat) : Int) := sub2 htp hg.1 (by omega)
          refine pv_iload (pc := 31) (i := 8) rfl (fm_dec dtX1_outcome 16 rfl) ?_
          refine pv_bipush (pc := 33) (v := (-6)) (by decide) (fm_dec dtX1_outcome 17 rfl) ?_
          refine pv_icmp_gt (pc := 35) 80 (by decide) (fm_dec dtX1_outcome 18 rfl) (fun hc35 => by exfalso; rw [sc_lt, hx2] at hc35; have h9 : (-6 : Int32).toInt = -6 := (by decide); revert hc35; unfold cdV; rw [if_neg (by omega), if_neg (by omega)]; split <;> omega) (fun _ => ?_)
          refine pv_iload (pc := 38) (i := 6) rfl (fm_dec dtX1_outcome 19 rfl) ?_
          refine pv_iconst (pc := 40) (v := 2) (by decide) (fm_dec dtX1_outcome 20 rfl) ?_
          refine pv_icmp_lt (pc := 41) 80 (by decide) (fm_dec dtX1_outcome 21 rfl) (fun hc41 => by exfalso; rw [sc_lt] at hc41; have h9 : (2 : Int32).toInt = 2 := (by decide); omega) (fun _ => ?_)
          refine pv_iincc (pc := 44) 6 (-1) (by decide) rfl (by decide) rfl (fm_dec dtX1_outcome 22 rfl) ?_
          dsimp only [List.set_cons_zero, List.set_cons_succ]
          refine pv_aloadn (pc := 47) (n := 0) 0 rfl rfl (fm_dec dtX1_outcome 23 rfl) ?_
          refine pv_getR (k := 23) (j := 2) (ci := 1) (pc := 48) 26 rfl (by decide) pfl_X1_18 (by decide) rfl (by decide) (fm_dec dtX1_outcome 24 rfl) ?_
          refine pv_iload (pc := 51) (i := 6) rfl (fm_dec dtX1_outcome 25 rfl) ?_
          refine pv_iconst (pc := 53) (v := 1) (by decide) (fm_dec dtX1_outcome 26 rfl) ?_
          refine pv_isub (pc := 54) (fm_dec dtX1_outcome 27 rfl) ?_
          refine pv_iload (pc := 55) (i := 8) rfl (fm_dec dtX1_outcome 28 rfl) ?_
          refine pv_aloadn (pc := 57) (n := 0) 0 rfl rfl (fm_dec dtX1_outcome 29 rfl) ?_
          refine pv_getR (k := 23) (j := 2) (ci := 1) (pc := 58) 26 rfl (by decide) pfl_X1_18 (by decide) rfl (by decide) (fm_dec dtX1_outcome 30 rfl) ?_
          refine pv_iload (pc := 61) (i := 6) rfl (fm_dec dtX1_outcome 31 rfl) ?_
          refine pv_iconst (pc := 63) (v := 1) (by decide) (fm_dec dtX1_outcome 32 rfl) ?_
          refine pv_isub (pc := 64) (fm_dec dtX1_outcome 33 rfl) ?_
          refine pv_iald (k := 26) (n := 24) (pc := 65) (by decide) rfl rfl (ix_in hd2 (by omega)) (fm_dec dtX1_outcome 34 rfl) ?_
          refine pv_aloadn (pc := 66) (n := 0) 0 rfl rfl (fm_dec dtX1_outcome 35 rfl) ?_
          refine pv_getR (k := 23) (j := 2) (ci := 1) (pc := 67) 26 rfl (by decide) pfl_X1_18 (by decide) rfl (by decide) (fm_dec dtX1_outcome 36 rfl) ?_
          refine pv_iload (pc := 70) (i := 6) rfl (fm_dec dtX1_outcome 37 rfl) ?_
          refine pv_iald (k := 26) (n := 24) (pc := 72) (by decide) rfl rfl (ix_in hd1 (by omega)) (fm_dec dtX1_outcome 38 rfl) ?_
          refine pv_iS3 (d' := 0) (pc := 73) pcs_X1_85 (Nat.le_of_ble_eq_true rfl) (by decide) (fm_dec dtX1_outcome 39 rfl) ?_
          refine c_joined (c := c.1) (by omega) hg.2 hx2 ?_
          refine pv_then1 ?_
          refine pv_iast (k := 26) (n := 24) (pc := 76) (by decide) rfl rfl (ix_in hd2 (by omega)) (fm_dec dtX1_outcome 40 rfl) ?_
          refine pv_goto (pc := 77) 185 (by decide) (fm_dec dtX1_outcome 41 rfl) ?_
          refine pv_iincc (pc := 185) 7 1 (by decide) rfl (by decide) rfl (fm_dec dtX1_outcome 80 rfl) ?_
          dsimp only [List.set_cons_zero, List.set_cons_succ]
          refine pv_goto (pc := 188) 6 (by decide) (fm_dec dtX1_outcome 81 rfl) ?_
          rw [i32_cl hd1, i32_cl hd2]
          have eL : lwR (knF a1 a2 a3 a4 a5) (cs.drop i) d (M.1 26) = lwR (knF a1 a2 a3 a4 a5) (cs.drop (i + 1)) (d - 1) ((fmI M 26 (d - 2) (opV c.1 (M.1 26 (d - 2)) (M.1 26 (d - 1)))).1 26) := (by rw [hdr, fmI_row]; simp only [lwR]; rw [if_neg hc2])
          exact ih (cs.length - (i + 1)) (by omega) _ (i + 1) (d - 1) _ _ _ rfl hil (i32_p1 hii (by omega)) hd1 (by omega) hdB (fun k j h => (by rw [fmI_k _ _ h]; exact hfr k j h)) hfr2 (fun M9 tp9 ii9 v9 g1 g2 g3 => hq M9 tp9 ii9 v9 g1 g2 (g3.trans eL.symm))
        · cases hdB
def outV (x : Int32) : Int32 := pvMx true 0 (pvMx false 64 x)
set_option maxRecDepth 20000 in
theorem c_xout {M : fmM} {Q : fmR → fmM → Prop} {cs : tC} {a1 a2 a3 a4 a5 : Int32} (hsz : (M.1 23 3).toInt = (cs.length : Int)) (h150 : cs.length ≤ 150) (hcd : ∀ i c, cs[i]? = some c → (M.1 24 i).toInt = cdV c) (hd : dpB 23 0 cs = some 1) (hq : ∀ M' : fmM, (∀ k j, k ≠ 26 → M'.1 k j = M.1 k j) → M'.2 = M.2 → Q (.inl (some (.int (outV (lwR (knF a1 a2 a3 a4 a5) cs 0 (M.1 26)))))) M') : pvGood Tx 1 qX1_outcome [.ref 23, .int a1, .int a2, .int a3, .int a4, .int a5] M Q := by
  refine pvGood_of (Nat.le_of_ble_eq_true rfl) ?_
  show pvEv Tx 1 qX1_outcome 0 [some (.ref 23), some (.int a1), some (.int a2), some (.int a3), some (.int a4), some (.int a5), none, none, none] [] M Q
  refine pv_iconst (pc := 0) (v := 0) (by decide) (fm_dec dtX1_outcome 0 rfl) ?_
  refine pv_istore (pc := 1) (i := 6) (by decide) rfl (fm_dec dtX1_outcome 1 rfl) ?_
  dsimp only [List.set_cons_zero, List.set_cons_succ]
  refine pv_iconst (pc := 3) (v := 0) (by decide) (fm_dec dtX1_outcome 2 rfl) ?_
  refine pv_istore (pc := 4) (i := 7) (by decide) rfl (fm_dec dtX1_outcome 3 rfl) ?_
  dsimp only [List.set_cons_zero, List.set_cons_succ]
  refine xo_loop hsz h150 hcd _ M 0 0 0 0 _ rfl (Nat.zero_le _) (by decide) (by decide) (by decide) hd (fun _ _ _ => rfl) rfl (fun M9 tp9 ii9 v9 g1 g2 g3 => ?_)
  rw [List.drop_zero] at g3
  refine pv_iconst (pc := 191) (v := 0) (by decide) (fm_dec dtX1_outcome 82 rfl) ?_
  refine pv_bipush (pc := 192) (v := 64) (by decide) (fm_dec dtX1_outcome 83 rfl) ?_
  refine pv_aloadn (pc := 194) (n := 0) 0 rfl rfl (fm_dec dtX1_outcome 84 rfl) ?_
  refine pv_getR (k := 23) (j := 2) (ci := 1) (pc := 195) 26 rfl (by decide) pfl_X1_18 (by decide) rfl (by decide) (fm_dec dtX1_outcome 85 rfl) ?_
  refine pv_iconst (pc := 198) (v := 0) (by decide) (fm_dec dtX1_outcome 86 rfl) ?_
  refine pv_iald (k := 26) (n := 24) (pc := 199) (by decide) rfl rfl (fm_inl (by decide)) (fm_dec dtX1_outcome 87 rfl) ?_
  refine pv_mm (pc := 200) pmm_X1_89 (by decide) (Nat.le_of_ble_eq_true rfl) (fm_dec dtX1_outcome 88 rfl) ?_
  refine pv_mm (pc := 203) pmm_X1_94 (by decide) (Nat.le_of_ble_eq_true rfl) (fm_dec dtX1_outcome 89 rfl) ?_
  exact pv_ireturn (pc := 206) rfl (fm_dec dtX1_outcome 90 rfl) (by rw [show M9.1 26 (0 : Int32).toNatClampNeg = M9.1 26 0 from rfl, g3]; exact hq M9 g1 g2)
end
-- P 18o
section
-- WOULD, exactly
theorem lwR_cong {kn kn' : Nat → Int32} {B : Nat} (hk : ∀ j, j ≤ 4 → kn j = kn' j) : ∀ (cs : tC) (d : Nat) (st st' : Nat → Int32), dpB B d cs = some 1 → (∀ j, j < d → st j = st' j) → lwR kn cs d st = lwR kn' cs d st'
  | [], d, st, st', h, hs => by
    cases h
    exact hs 0 (by decide)
  | c :: cs, d, st, st', h, hs => by
    simp only [dpB] at h
    simp only [lwR]
    split at h
    · rename_i h2
      split at h
      · rename_i hg
        rw [if_pos h2, if_pos h2]
        refine lwR_cong hk cs (d + 1) _ _ h (fun j hj => ?_)
        by_cases e : j = d
        · simp only [e, if_true]
          by_cases e0 : c.1 = 0
          · rw [if_pos e0, if_pos e0]
          · rw [if_neg e0, if_neg e0]
            exact hk _ (by omega)
        · simp only [e, if_false]
          exact hs j (by omega)
      · cases h
    · rename_i h2
      split at h
      · rename_i hg
        rw [if_neg h2, if_neg h2]
        refine lwR_cong hk cs (d - 1) _ _ h (fun j hj => ?_)
        by_cases e : j = d - 2
        · simp only [e, if_true]
          rw [hs (d - 2) (by omega), hs (d - 1) (by omega)]
        · simp only [e, if_false]
          exact hs j (by omega)
      · cases h
/-- codes as they stand here: of no law, twice the age -/
def xcs (cs : tC) : tC := if cs = [] then [(1, 0), (1, 0), (2, 0)] else cs
def lwX (M : fmM) (cs : tC) : Prop := (M.1 23 3).toInt = ((xcs cs).length : Int) ∧ (xcs cs).length ≤ 150 ∧ (∀ i c, (xcs cs)[i]? = some c → (M.1 24 i).toInt = cdV c) ∧ dpB 23 0 (xcs cs) = some 1
def lwM (M : fmM) (cs : tC) : Prop := (M.1 0 17).toInt = (cs.length : Int) ∧ cs.length ≤ 160 ∧ (cs = [] ∨ dpR 0 cs = some 1) ∧ lwHas M.1 91 cs
/-- what a law says -/
def lwV (cs : tC) (a b c d e : Int32) : Int32 := outV (lwR (knF a b c d e) (xcs cs) 0 (fun _ => 0))
def wdP (a b c d e : Int32) : Prop := inW a 0 200 ∧ inW b 0 200 ∧ inW c 1 99 ∧ inW d 0 1 ∧ inW e 0 24
theorem c_xlw {M : fmM} {Q : fmR → fmM → Prop} {cs : tC} {a b c d e : Int32} (h : lwX M cs) (hq : ∀ M' : fmM, (∀ k j, k ≠ 26 → M'.1 k j = M.1 k j) → M'.2 = M.2 → Q (.inl (some (.int (lwV cs a b c d e)))) M') : pvGood Tx 1 qX1_outcome [.ref 23, .int a, .int b, .int c, .int d, .int e] M Q := c_xout h.1 h.2.1 h.2.2.1 h.2.2.2 (fun M' h1 h2 => by
  rw [lwR_cong (fun _ _ => rfl) (xcs cs) 0 (M.1 26) (fun _ => 0) h.2.2.2 (fun j hj => absurd hj (Nat.not_lt_zero j))]
  exact hq M' h1 h2)
set_option maxRecDepth 20000 in
theorem c_xwould {M : fmM} {Q : fmR → fmM → Prop} {cs : tC} {a b c d e : Int32} (hL : lwX M cs) (ht : wdP a b c d e → ∀ M' : fmM, (∀ k j, k ≠ 26 → M'.1 k j = M.1 k j) → M'.2 = M.2 → Q (.inl (some (.int (lwV cs a b c d e)))) M') (hf : ¬ wdP a b c d e → Q (.inr fmIAE) (fmI M 0 16 (M.1 0 16 + 1))) : pvGood Tx 2 qX10_would [.ref 0, .int a, .int b, .int c, .int d, .int e] M Q := by
  refine pvGood_of (Nat.le_of_ble_eq_true rfl) ?_
  show pvEv Tx 2 qX10_would 0 [some (.ref 0), some (.int a), some (.int b), some (.int c), some (.int d), some (.int e)] [] M Q
  refine pv_aloadn (pc := 0) (n := 0) 0 rfl rfl (fm_dec dtX10_would 0 rfl) ?_
  refine pv_iloadn (pc := 1) (n := 1) 1 rfl rfl (fm_dec dtX10_would 1 rfl) ?_
  refine pv_iconst (pc := 2) (v := 0) (by decide) (fm_dec dtX10_would 2 rfl) ?_
  refine pv_sipush (pc := 3) (v := 200) (by decide) (fm_dec dtX10_would 3 rfl) ?_
  refine pv_invV3 (k := 0) (d' := 0) (pc := 6) pcv_X10_169 (by decide) rfl (Nat.le_of_ble_eq_true rfl) (by decide) (fm_dec dtX10_would 4 rfl) ?_
  refine c_needW (fun h6a h6b => ?_) (fun h6 => ?_)
  · refine pv_then0 ?_
    refine pv_aloadn (pc := 9) (n := 0) 0 rfl rfl (fm_dec dtX10_would 5 rfl) ?_
    refine pv_iloadn (pc := 10) (n := 2) 2 rfl rfl (fm_dec dtX10_would 6 rfl) ?_
    refine pv_iconst (pc := 11) (v := 0) (by decide) (fm_dec dtX10_would 7 rfl) ?_
    refine pv_sipush (pc := 12) (v := 200) (by decide) (fm_dec dtX10_would 8 rfl) ?_
    refine pv_invV3 (k := 0) (d' := 0) (pc := 15) pcv_X10_169 (by decide) rfl (Nat.le_of_ble_eq_true rfl) (by decide) (fm_dec dtX10_would 9 rfl) ?_
    refine c_needW (fun h15a h15b => ?_) (fun h15 => ?_)
    · refine pv_then0 ?_
      refine pv_aloadn (pc := 18) (n := 0) 0 rfl rfl (fm_dec dtX10_would 10 rfl) ?_
      refine pv_iloadn (pc := 19) (n := 3) 3 rfl rfl (fm_dec dtX10_would 11 rfl) ?_
      refine pv_iconst (pc := 20) (v := 1) (by decide) (fm_dec dtX10_would 12 rfl) ?_
      refine pv_bipush (pc := 21) (v := 99) (by decide) (fm_dec dtX10_would 13 rfl) ?_
      refine pv_invV3 (k := 0) (d' := 0) (pc := 23) pcv_X10_169 (by decide) rfl (Nat.le_of_ble_eq_true rfl) (by decide) (fm_dec dtX10_would 14 rfl) ?_
      refine c_needW (fun h23a h23b => ?_) (fun h23 => ?_)
      · refine pv_then0 ?_
        refine pv_aloadn (pc := 26) (n := 0) 0 rfl rfl (fm_dec dtX10_would 15 rfl) ?_
        refine pv_iload (pc := 27) (i := 4) rfl (fm_dec dtX10_would 16 rfl) ?_
        refine pv_iconst (pc := 29) (v := 0) (by decide) (fm_dec dtX10_would 17 rfl) ?_
        refine pv_iconst (pc := 30) (v := 1) (by decide) (fm_dec dtX10_would 18 rfl) ?_
        refine pv_invV3 (k := 0) (d' := 0) (pc := 31) pcv_X10_169 (by decide) rfl (Nat.le_of_ble_eq_true rfl) (by decide) (fm_dec dtX10_would 19 rfl) ?_
        refine c_needW (fun h31a h31b => ?_) (fun h31 => ?_)
        · refine pv_then0 ?_
          refine pv_aloadn (pc := 34) (n := 0) 0 rfl rfl (fm_dec dtX10_would 20 rfl) ?_
          refine pv_iload (pc := 35) (i := 5) rfl (fm_dec dtX10_would 21 rfl) ?_
          refine pv_iconst (pc := 37) (v := 0) (by decide) (fm_dec dtX10_would 22 rfl) ?_
          refine pv_bipush (pc := 38) (v := 24) (by decide) (fm_dec dtX10_would 23 rfl) ?_
          refine pv_invV3 (k := 0) (d' := 0) (pc := 40) pcv_X10_169 (by decide) rfl (Nat.le_of_ble_eq_true rfl) (by decide) (fm_dec dtX10_would 24 rfl) ?_
          refine c_needW (fun h40a h40b => ?_) (fun h40 => ?_)
          · refine pv_then0 ?_
            refine pv_aloadn (pc := 43) (n := 0) 0 rfl rfl (fm_dec dtX10_would 25 rfl) ?_
            refine pv_getR (k := 0) (j := 3) (ci := 10) (pc := 44) 23 rfl (by decide) pfl_X10_29 (by decide) rfl (by decide) (fm_dec dtX10_would 26 rfl) ?_
            refine pv_iloadn (pc := 47) (n := 1) 1 rfl rfl (fm_dec dtX10_would 27 rfl) ?_
            refine pv_iloadn (pc := 48) (n := 2) 2 rfl rfl (fm_dec dtX10_would 28 rfl) ?_
            refine pv_iloadn (pc := 49) (n := 3) 3 rfl rfl (fm_dec dtX10_would 29 rfl) ?_
            refine pv_iload (pc := 50) (i := 4) rfl (fm_dec dtX10_would 30 rfl) ?_
            refine pv_iload (pc := 52) (i := 5) rfl (fm_dec dtX10_would 31 rfl) ?_
            refine pv_invV5 (k := 23) (d' := 1) (pc := 54) pcv_X10_233 (by decide) rfl (Nat.le_of_ble_eq_true rfl) (by decide) (fm_dec dtX10_would 32 rfl) ?_
            refine c_xlw hL (fun M54 g54 h54 => ?_)
            refine pv_then1 ?_
            exact pv_ireturn (pc := 57) rfl (fm_dec dtX10_would 33 rfl) (ht ⟨⟨h6a, h6b⟩, ⟨h15a, h15b⟩, ⟨h23a, h23b⟩, ⟨h31a, h31b⟩, ⟨h40a, h40b⟩⟩ M54 g54 h54)
          · refine pv_thenX ?_
            exact hf (fun h9 => h40 (by first | exact h9.1 | exact h9.2.1 | exact h9.2.2.1 | exact h9.2.2.2.1 | exact h9.2.2.2.2))
        · refine pv_thenX ?_
          exact hf (fun h9 => h31 (by first | exact h9.1 | exact h9.2.1 | exact h9.2.2.1 | exact h9.2.2.2.1 | exact h9.2.2.2.2))
      · refine pv_thenX ?_
        exact hf (fun h9 => h23 (by first | exact h9.1 | exact h9.2.1 | exact h9.2.2.1 | exact h9.2.2.2.1 | exact h9.2.2.2.2))
    · refine pv_thenX ?_
      exact hf (fun h9 => h15 (by first | exact h9.1 | exact h9.2.1 | exact h9.2.2.1 | exact h9.2.2.2.1 | exact h9.2.2.2.2))
  · refine pv_thenX ?_
    exact hf (fun h9 => h6 (by first | exact h9.1 | exact h9.2.1 | exact h9.2.2.1 | exact h9.2.2.2.1 | exact h9.2.2.2.2))
def knM (M : fmM) (a b c d e : Int32) : fmM := (fmI (fmI (fmI (fmI (fmI M 6 0 a) 6 1 b) 6 2 c) 6 3 d) 6 4 e)
theorem lw_val {M : fmM} {cs : tC} {a b c d e : Int32} {st : Nat → Int32} (hd : cs = [] ∨ dpB 23 0 cs = some 1) : outV (if cs = [] then (knM M a b c d e).1 6 0 + (knM M a b c d e).1 6 0 else lwR ((knM M a b c d e).1 6) cs 0 st) = lwV cs a b c d e := by
  unfold lwV xcs
  by_cases e0 : cs = []
  · rw [if_pos e0, if_pos e0]
    rfl
  · rw [if_neg e0, if_neg e0]
    rcases hd with h | h
    · exact absurd h e0
    · rw [lwR_cong (kn' := knF a b c d e) (fun j hj => ?_) cs 0 st (fun _ => 0) h (fun j hj => absurd hj (Nat.not_lt_zero j))]
      rcases (show j = 0 ∨ j = 1 ∨ j = 2 ∨ j = 3 ∨ j = 4 by omega) with rfl | rfl | rfl | rfl | rfl <;> rfl
theorem lwM.kn {M : fmM} {cs : tC} {a b c d e : Int32} (h : lwM M cs) : lwM (knM M a b c d e) cs := ⟨h.1, h.2.1, h.2.2.1, h.2.2.2.fr (fun k j hk => by unfold knM; rw [fmI_k _ _ (by omega), fmI_k _ _ (by omega), fmI_k _ _ (by omega), fmI_k _ _ (by omega), fmI_k _ _ (by omega)])⟩
set_option maxRecDepth 20000 in
theorem c_mlw {M : fmM} {Q : fmR → fmM → Prop} {cs : tC} {a b c d e : Int32} (hL : lwM M cs) (hd : cs = [] ∨ dpB 23 0 cs = some 1) (hq : ∀ M' : fmM, (∀ k j, k ≠ 5 → k ≠ 6 → M'.1 k j = M.1 k j) → M'.2 = M.2 → Q (.inl (some (.int (lwV cs a b c d e)))) M') : pvGood Tm 4 qX11_wrongBy [.ref 0, .int a, .int b, .int c, .int d, .int e] M Q := by
  refine pvGood_of (Nat.le_of_ble_eq_true rfl) ?_
  show pvEv Tm 4 qX11_wrongBy 0 [some (.ref 0), some (.int a), some (.int b), some (.int c), some (.int d), some (.int e)] [] M Q
  refine pv_aloadn (pc := 0) (n := 0) 0 rfl rfl (fm_dec dtX11_wrongBy 0 rfl) ?_
  refine pv_getR (k := 0) (j := 24) (ci := 11) (pc := 1) 6 rfl (by decide) pfl_X11_55 (by decide) rfl (by decide) (fm_dec dtX11_wrongBy 1 rfl) ?_
  refine pv_iconst (pc := 4) (v := 0) (by decide) (fm_dec dtX11_wrongBy 2 rfl) ?_
  refine pv_iloadn (pc := 5) (n := 1) 1 rfl rfl (fm_dec dtX11_wrongBy 3 rfl) ?_
  refine pv_iast (k := 6) (n := 5) (pc := 6) (by decide) rfl rfl (fm_inl (by decide)) (fm_dec dtX11_wrongBy 4 rfl) ?_
  refine pv_aloadn (pc := 7) (n := 0) 0 rfl rfl (fm_dec dtX11_wrongBy 5 rfl) ?_
  refine pv_getR (k := 0) (j := 24) (ci := 11) (pc := 8) 6 rfl (by decide) pfl_X11_55 (by decide) rfl (by decide) (fm_dec dtX11_wrongBy 6 rfl) ?_
  refine pv_iconst (pc := 11) (v := 1) (by decide) (fm_dec dtX11_wrongBy 7 rfl) ?_
  refine pv_iloadn (pc := 12) (n := 2) 2 rfl rfl (fm_dec dtX11_wrongBy 8 rfl) ?_
  refine pv_iast (k := 6) (n := 5) (pc := 13) (by decide) rfl rfl (fm_inl (by decide)) (fm_dec dtX11_wrongBy 9 rfl) ?_
  refine pv_aloadn (pc := 14) (n := 0) 0 rfl rfl (fm_dec dtX11_wrongBy 10 rfl) ?_
  refine pv_getR (k := 0) (j := 24) (ci := 11) (pc := 15) 6 rfl (by decide) pfl_X11_55 (by decide) rfl (by decide) (fm_dec dtX11_wrongBy 11 rfl) ?_
  refine pv_iconst (pc := 18) (v := 2) (by decide) (fm_dec dtX11_wrongBy 12 rfl) ?_
  refine pv_iloadn (pc := 19) (n := 3) 3 rfl rfl (fm_dec dtX11_wrongBy 13 rfl) ?_
  refine pv_iast (k := 6) (n := 5) (pc := 20) (by decide) rfl rfl (fm_inl (by decide)) (fm_dec dtX11_wrongBy 14 rfl) ?_
  refine pv_aloadn (pc := 21) (n := 0) 0 rfl rfl (fm_dec dtX11_wrongBy 15 rfl) ?_
  refine pv_getR (k := 0) (j := 24) (ci := 11) (pc := 22) 6 rfl (by decide) pfl_X11_55 (by decide) rfl (by decide) (fm_dec dtX11_wrongBy 16 rfl) ?_
  refine pv_iconst (pc := 25) (v := 3) (by decide) (fm_dec dtX11_wrongBy 17 rfl) ?_
  refine pv_iload (pc := 26) (i := 4) rfl (fm_dec dtX11_wrongBy 18 rfl) ?_
  refine pv_iast (k := 6) (n := 5) (pc := 28) (by decide) rfl rfl (fm_inl (by decide)) (fm_dec dtX11_wrongBy 19 rfl) ?_
  refine pv_aloadn (pc := 29) (n := 0) 0 rfl rfl (fm_dec dtX11_wrongBy 20 rfl) ?_
  refine pv_getR (k := 0) (j := 24) (ci := 11) (pc := 30) 6 rfl (by decide) pfl_X11_55 (by decide) rfl (by decide) (fm_dec dtX11_wrongBy 21 rfl) ?_
  refine pv_iconst (pc := 33) (v := 4) (by decide) (fm_dec dtX11_wrongBy 22 rfl) ?_
  refine pv_iload (pc := 34) (i := 5) rfl (fm_dec dtX11_wrongBy 23 rfl) ?_
  refine pv_iast (k := 6) (n := 5) (pc := 36) (by decide) rfl rfl (fm_inl (by decide)) (fm_dec dtX11_wrongBy 24 rfl) ?_
  refine pv_iconst (pc := 37) (v := 0) (by decide) (fm_dec dtX11_wrongBy 25 rfl) ?_
  refine pv_bipush (pc := 38) (v := 64) (by decide) (fm_dec dtX11_wrongBy 26 rfl) ?_
  refine pv_aloadn (pc := 40) (n := 0) 0 rfl rfl (fm_dec dtX11_wrongBy 27 rfl) ?_
  refine pv_invV0 (k := 0) (d' := 3) (pc := 41) pcv_X11_260 (by decide) rfl (Nat.le_of_ble_eq_true rfl) (by decide) (fm_dec dtX11_wrongBy 28 rfl) ?_
  refine c_byLaw (M := knM M a b c d e) (hL.kn (a := a) (b := b) (c := c) (d := d) (e := e)).1 (hL.kn (a := a) (b := b) (c := c) (d := d) (e := e)).2.1 (hL.kn (a := a) (b := b) (c := c) (d := d) (e := e)).2.2.1 (hL.kn (a := a) (b := b) (c := c) (d := d) (e := e)).2.2.2 (fun M41 g41 h41 => ?_)
  refine pv_then1 ?_
  refine pv_mm (pc := 44) pmm_X11_237 (by decide) (Nat.le_of_ble_eq_true rfl) (fm_dec dtX11_wrongBy 29 rfl) ?_
  refine pv_mm (pc := 47) pmm_X11_240 (by decide) (Nat.le_of_ble_eq_true rfl) (fm_dec dtX11_wrongBy 30 rfl) ?_
  exact pv_ireturn (pc := 50) rfl (fm_dec dtX11_wrongBy 31 rfl) (by have h9 := hq M41 (fun k j a1 a2 => ?_) h41; rw [← lw_val (M := M) (st := (knM M a b c d e).1 5) hd] at h9; exact h9; rw [g41 k j (fun h8 => a1 h8.1)]; unfold knM; rw [fmI_k _ _ a2, fmI_k _ _ a2, fmI_k _ _ a2, fmI_k _ _ a2, fmI_k _ _ a2])
set_option maxRecDepth 20000 in
theorem c_mwould {M : fmM} {Q : fmR → fmM → Prop} {cs : tC} {a b c d e : Int32} (hL : lwM M cs) (hd : cs = [] ∨ dpB 23 0 cs = some 1) (ht : wdP a b c d e → ∀ M' : fmM, (∀ k j, k ≠ 5 → k ≠ 6 → M'.1 k j = (fmI M 0 0 0).1 k j) → M'.2 = M.2 → Q (.inl (some (.int (lwV cs a b c d e)))) M') (hf : ¬ wdP a b c d e → ∀ M' : fmM, M'.1 0 0 = 1 → Q (.inl (some (.int 0))) M') : pvGood Tm 5 qX11_would [.ref 0, .int a, .int b, .int c, .int d, .int e] M Q := by
  refine pvGood_of (Nat.le_of_ble_eq_true rfl) ?_
  show pvEv Tm 5 qX11_would 0 [some (.ref 0), some (.int a), some (.int b), some (.int c), some (.int d), some (.int e)] [] M Q
  refine pv_aloadn (pc := 0) (n := 0) 0 rfl rfl (fm_dec dtX11_would 0 rfl) ?_
  refine pv_iconst (pc := 1) (v := 0) (by decide) (fm_dec dtX11_would 1 rfl) ?_
  refine pv_putI (k := 0) (j := 0) (ci := 11) (pc := 2) pfl_X11_101 (by decide) rfl (by decide) (fm_dec dtX11_would 2 rfl) ?_
  refine pv_aloadn (pc := 5) (n := 0) 0 rfl rfl (fm_dec dtX11_would 3 rfl) ?_
  refine pv_iloadn (pc := 6) (n := 1) 1 rfl rfl (fm_dec dtX11_would 4 rfl) ?_
  refine pv_iconst (pc := 7) (v := 0) (by decide) (fm_dec dtX11_would 5 rfl) ?_
  refine pv_sipush (pc := 8) (v := 200) (by decide) (fm_dec dtX11_would 6 rfl) ?_
  refine pv_iS3 (d' := 0) (pc := 11) pcs_X11_135 (Nat.le_of_ble_eq_true rfl) (by decide) (fm_dec dtX11_would 7 rfl) ?_
  refine c_in (fun h11a h11b => ?_) (fun h11 => ?_)
  · refine pv_then1 ?_
    refine pv_if_eq (pc := 14) 59 (by decide) (fm_dec dtX11_would 8 rfl) (fun hc14 => by exfalso; revert hc14; decide) (fun _ => ?_)
    refine pv_iloadn (pc := 17) (n := 2) 2 rfl rfl (fm_dec dtX11_would 9 rfl) ?_
    refine pv_iconst (pc := 18) (v := 0) (by decide) (fm_dec dtX11_would 10 rfl) ?_
    refine pv_sipush (pc := 19) (v := 200) (by decide) (fm_dec dtX11_would 11 rfl) ?_
    refine pv_iS3 (d' := 0) (pc := 22) pcs_X11_135 (Nat.le_of_ble_eq_true rfl) (by decide) (fm_dec dtX11_would 12 rfl) ?_
    refine c_in (fun h22a h22b => ?_) (fun h22 => ?_)
    · refine pv_then1 ?_
      refine pv_if_eq (pc := 25) 59 (by decide) (fm_dec dtX11_would 13 rfl) (fun hc25 => by exfalso; revert hc25; decide) (fun _ => ?_)
      refine pv_iloadn (pc := 28) (n := 3) 3 rfl rfl (fm_dec dtX11_would 14 rfl) ?_
      refine pv_iconst (pc := 29) (v := 1) (by decide) (fm_dec dtX11_would 15 rfl) ?_
      refine pv_bipush (pc := 30) (v := 99) (by decide) (fm_dec dtX11_would 16 rfl) ?_
      refine pv_iS3 (d' := 0) (pc := 32) pcs_X11_135 (Nat.le_of_ble_eq_true rfl) (by decide) (fm_dec dtX11_would 17 rfl) ?_
      refine c_in (fun h32a h32b => ?_) (fun h32 => ?_)
      · refine pv_then1 ?_
        refine pv_if_eq (pc := 35) 59 (by decide) (fm_dec dtX11_would 18 rfl) (fun hc35 => by exfalso; revert hc35; decide) (fun _ => ?_)
        refine pv_iload (pc := 38) (i := 4) rfl (fm_dec dtX11_would 19 rfl) ?_
        refine pv_iconst (pc := 40) (v := 0) (by decide) (fm_dec dtX11_would 20 rfl) ?_
        refine pv_iconst (pc := 41) (v := 1) (by decide) (fm_dec dtX11_would 21 rfl) ?_
        refine pv_iS3 (d' := 0) (pc := 42) pcs_X11_135 (Nat.le_of_ble_eq_true rfl) (by decide) (fm_dec dtX11_would 22 rfl) ?_
        refine c_in (fun h42a h42b => ?_) (fun h42 => ?_)
        · refine pv_then1 ?_
          refine pv_if_eq (pc := 45) 59 (by decide) (fm_dec dtX11_would 23 rfl) (fun hc45 => by exfalso; revert hc45; decide) (fun _ => ?_)
          refine pv_iload (pc := 48) (i := 5) rfl (fm_dec dtX11_would 24 rfl) ?_
          refine pv_iconst (pc := 50) (v := 0) (by decide) (fm_dec dtX11_would 25 rfl) ?_
          refine pv_bipush (pc := 51) (v := 24) (by decide) (fm_dec dtX11_would 26 rfl) ?_
          refine pv_iS3 (d' := 0) (pc := 53) pcs_X11_135 (Nat.le_of_ble_eq_true rfl) (by decide) (fm_dec dtX11_would 27 rfl) ?_
          refine c_in (fun h53a h53b => ?_) (fun h53 => ?_)
          · refine pv_then1 ?_
            refine pv_if_ne (pc := 56) 63 (by decide) (fm_dec dtX11_would 28 rfl) (fun _ => ?_) (fun hc56 => by exfalso; revert hc56; decide)
            refine pv_iconst (pc := 63) (v := 0) (by decide) (fm_dec dtX11_would 31 rfl) ?_
            refine pv_iconst (pc := 64) (v := 1) (by decide) (fm_dec dtX11_would 32 rfl) ?_
            refine pv_iconst (pc := 65) (v := 1) (by decide) (fm_dec dtX11_would 33 rfl) ?_
            refine pv_invV3 (k := 0) (d' := 0) (pc := 66) pcv_X11_177 (by decide) rfl (Nat.le_of_ble_eq_true rfl) (by decide) (fm_dec dtX11_would 34 rfl) ?_
            refine c_badF1 rfl ?_
            refine pv_then1 ?_
            refine pv_if_eq (pc := 69) 74 (by decide) (fm_dec dtX11_would 35 rfl) (fun _ => ?_) (fun hc69 => by exfalso; revert hc69; decide)
            refine pv_aloadn (pc := 74) (n := 0) 0 rfl rfl (fm_dec dtX11_would 38 rfl) ?_
            refine pv_iloadn (pc := 75) (n := 1) 1 rfl rfl (fm_dec dtX11_would 39 rfl) ?_
            refine pv_iloadn (pc := 76) (n := 2) 2 rfl rfl (fm_dec dtX11_would 40 rfl) ?_
            refine pv_iloadn (pc := 77) (n := 3) 3 rfl rfl (fm_dec dtX11_would 41 rfl) ?_
            refine pv_iload (pc := 78) (i := 4) rfl (fm_dec dtX11_would 42 rfl) ?_
            refine pv_iload (pc := 80) (i := 5) rfl (fm_dec dtX11_would 43 rfl) ?_
            refine pv_invV5 (k := 0) (d' := 4) (pc := 82) pcv_X11_273 (by decide) rfl (Nat.le_of_ble_eq_true rfl) (by decide) (fm_dec dtX11_would 44 rfl) ?_
            refine c_mlw (M := fmI M 0 0 0) ⟨hL.1, hL.2.1, hL.2.2.1, hL.2.2.2.fr (fun k j hk => by rw [fmI_k _ _ (by omega)])⟩ hd (fun M82 g82 h82 => ?_)
            refine pv_then1 ?_
            exact pv_ireturn (pc := 85) rfl (fm_dec dtX11_would 45 rfl) (ht ⟨⟨h11a, h11b⟩, ⟨h22a, h22b⟩, ⟨h32a, h32b⟩, ⟨h42a, h42b⟩, ⟨h53a, h53b⟩⟩ M82 g82 h82)
          · refine pv_then1 ?_
            refine pv_if_ne (pc := 56) 63 (by decide) (fm_dec dtX11_would 28 rfl) (fun hc56 => by exfalso; revert hc56; decide) (fun _ => ?_)
            refine pv_iconst (pc := 59) (v := 1) (by decide) (fm_dec dtX11_would 29 rfl) ?_
            refine pv_goto (pc := 60) 64 (by decide) (fm_dec dtX11_would 30 rfl) ?_
            refine pv_iconst (pc := 64) (v := 1) (by decide) (fm_dec dtX11_would 32 rfl) ?_
            refine pv_iconst (pc := 65) (v := 1) (by decide) (fm_dec dtX11_would 33 rfl) ?_
            refine pv_invV3 (k := 0) (d' := 0) (pc := 66) pcv_X11_177 (by decide) rfl (Nat.le_of_ble_eq_true rfl) (by decide) (fm_dec dtX11_would 34 rfl) ?_
            refine c_badT1 rfl (by decide) ?_
            refine pv_then1 ?_
            refine pv_if_eq (pc := 69) 74 (by decide) (fm_dec dtX11_would 35 rfl) (fun hc69 => by exfalso; revert hc69; decide) (fun _ => ?_)
            refine pv_iconst (pc := 72) (v := 0) (by decide) (fm_dec dtX11_would 36 rfl) ?_
            exact pv_ireturn (pc := 73) rfl (fm_dec dtX11_would 37 rfl) (hf (by intro h9; first | exact h53 h9.2.2.2.2 | exact h42 h9.2.2.2.1 | exact h32 h9.2.2.1 | exact h22 h9.2.1 | exact h11 h9.1) _ rfl)
        · refine pv_then1 ?_
          refine pv_if_eq (pc := 45) 59 (by decide) (fm_dec dtX11_would 23 rfl) (fun _ => ?_) (fun hc45 => by exfalso; revert hc45; decide)
          refine pv_iconst (pc := 59) (v := 1) (by decide) (fm_dec dtX11_would 29 rfl) ?_
          refine pv_goto (pc := 60) 64 (by decide) (fm_dec dtX11_would 30 rfl) ?_
          refine pv_iconst (pc := 64) (v := 1) (by decide) (fm_dec dtX11_would 32 rfl) ?_
          refine pv_iconst (pc := 65) (v := 1) (by decide) (fm_dec dtX11_would 33 rfl) ?_
          refine pv_invV3 (k := 0) (d' := 0) (pc := 66) pcv_X11_177 (by decide) rfl (Nat.le_of_ble_eq_true rfl) (by decide) (fm_dec dtX11_would 34 rfl) ?_
          refine c_badT1 rfl (by decide) ?_
          refine pv_then1 ?_
          refine pv_if_eq (pc := 69) 74 (by decide) (fm_dec dtX11_would 35 rfl) (fun hc69 => by exfalso; revert hc69; decide) (fun _ => ?_)
          refine pv_iconst (pc := 72) (v := 0) (by decide) (fm_dec dtX11_would 36 rfl) ?_
          exact pv_ireturn (pc := 73) rfl (fm_dec dtX11_would 37 rfl) (hf (by intro h9; first | exact h53 h9.2.2.2.2 | exact h42 h9.2.2.2.1 | exact h32 h9.2.2.1 | exact h22 h9.2.1 | exact h11 h9.1) _ rfl)
      · refine pv_then1 ?_
        refine pv_if_eq (pc := 35) 59 (by decide) (fm_dec dtX11_would 18 rfl) (fun _ => ?_) (fun hc35 => by exfalso; revert hc35; decide)
        refine pv_iconst (pc := 59) (v := 1) (by decide) (fm_dec dtX11_would 29 rfl) ?_
        refine pv_goto (pc := 60) 64 (by decide) (fm_dec dtX11_would 30 rfl) ?_
        refine pv_iconst (pc := 64) (v := 1) (by decide) (fm_dec dtX11_would 32 rfl) ?_
        refine pv_iconst (pc := 65) (v := 1) (by decide) (fm_dec dtX11_would 33 rfl) ?_
        refine pv_invV3 (k := 0) (d' := 0) (pc := 66) pcv_X11_177 (by decide) rfl (Nat.le_of_ble_eq_true rfl) (by decide) (fm_dec dtX11_would 34 rfl) ?_
        refine c_badT1 rfl (by decide) ?_
        refine pv_then1 ?_
        refine pv_if_eq (pc := 69) 74 (by decide) (fm_dec dtX11_would 35 rfl) (fun hc69 => by exfalso; revert hc69; decide) (fun _ => ?_)
        refine pv_iconst (pc := 72) (v := 0) (by decide) (fm_dec dtX11_would 36 rfl) ?_
        exact pv_ireturn (pc := 73) rfl (fm_dec dtX11_would 37 rfl) (hf (by intro h9; first | exact h53 h9.2.2.2.2 | exact h42 h9.2.2.2.1 | exact h32 h9.2.2.1 | exact h22 h9.2.1 | exact h11 h9.1) _ rfl)
    · refine pv_then1 ?_
      refine pv_if_eq (pc := 25) 59 (by decide) (fm_dec dtX11_would 13 rfl) (fun _ => ?_) (fun hc25 => by exfalso; revert hc25; decide)
      refine pv_iconst (pc := 59) (v := 1) (by decide) (fm_dec dtX11_would 29 rfl) ?_
      refine pv_goto (pc := 60) 64 (by decide) (fm_dec dtX11_would 30 rfl) ?_
      refine pv_iconst (pc := 64) (v := 1) (by decide) (fm_dec dtX11_would 32 rfl) ?_
      refine pv_iconst (pc := 65) (v := 1) (by decide) (fm_dec dtX11_would 33 rfl) ?_
      refine pv_invV3 (k := 0) (d' := 0) (pc := 66) pcv_X11_177 (by decide) rfl (Nat.le_of_ble_eq_true rfl) (by decide) (fm_dec dtX11_would 34 rfl) ?_
      refine c_badT1 rfl (by decide) ?_
      refine pv_then1 ?_
      refine pv_if_eq (pc := 69) 74 (by decide) (fm_dec dtX11_would 35 rfl) (fun hc69 => by exfalso; revert hc69; decide) (fun _ => ?_)
      refine pv_iconst (pc := 72) (v := 0) (by decide) (fm_dec dtX11_would 36 rfl) ?_
      exact pv_ireturn (pc := 73) rfl (fm_dec dtX11_would 37 rfl) (hf (by intro h9; first | exact h53 h9.2.2.2.2 | exact h42 h9.2.2.2.1 | exact h32 h9.2.2.1 | exact h22 h9.2.1 | exact h11 h9.1) _ rfl)
  · refine pv_then1 ?_
    refine pv_if_eq (pc := 14) 59 (by decide) (fm_dec dtX11_would 8 rfl) (fun _ => ?_) (fun hc14 => by exfalso; revert hc14; decide)
    refine pv_iconst (pc := 59) (v := 1) (by decide) (fm_dec dtX11_would 29 rfl) ?_
    refine pv_goto (pc := 60) 64 (by decide) (fm_dec dtX11_would 30 rfl) ?_
    refine pv_iconst (pc := 64) (v := 1) (by decide) (fm_dec dtX11_would 32 rfl) ?_
    refine pv_iconst (pc := 65) (v := 1) (by decide) (fm_dec dtX11_would 33 rfl) ?_
    refine pv_invV3 (k := 0) (d' := 0) (pc := 66) pcv_X11_177 (by decide) rfl (Nat.le_of_ble_eq_true rfl) (by decide) (fm_dec dtX11_would 34 rfl) ?_
    refine c_badT1 rfl (by decide) ?_
    refine pv_then1 ?_
    refine pv_if_eq (pc := 69) 74 (by decide) (fm_dec dtX11_would 35 rfl) (fun hc69 => by exfalso; revert hc69; decide) (fun _ => ?_)
    refine pv_iconst (pc := 72) (v := 0) (by decide) (fm_dec dtX11_would 36 rfl) ?_
    exact pv_ireturn (pc := 73) rfl (fm_dec dtX11_would 37 rfl) (hf (by intro h9; first | exact h53 h9.2.2.2.2 | exact h42 h9.2.2.2.1 | exact h32 h9.2.2.1 | exact h22 h9.2.1 | exact h11 h9.1) _ rfl)
theorem xe_would {M : fmM} {a0 a1 a2 a3 a4 : Int32} {cs : tC} (hX : lwX M cs) : pvGood Tx 250 qX10_would [.ref 0, .int a0, .int a1, .int a2, .int a3, .int a4] M (fun r _ => (wdP a0 a1 a2 a3 a4 ∧ r = .inl (some (.int (lwV cs a0 a1 a2 a3 a4)))) ∨ (¬ wdP a0 a1 a2 a3 a4 ∧ r = .inr fmIAE)) := (c_xwould hX (fun h M' _ _ => Or.inl ⟨h, rfl⟩) (fun h => Or.inr ⟨h, rfl⟩)).up (by decide)
theorem me_would {M : fmM} {a0 a1 a2 a3 a4 : Int32} {cs : tC} (hY : lwM M cs) (hd : cs = [] ∨ dpB 23 0 cs = some 1) : pvGood Tm 250 qX11_would [.ref 0, .int a0, .int a1, .int a2, .int a3, .int a4] M (fun r M' => (wdP a0 a1 a2 a3 a4 ∧ r = .inl (some (.int (lwV cs a0 a1 a2 a3 a4))) ∧ M'.1 0 0 = 0) ∨ (¬ wdP a0 a1 a2 a3 a4 ∧ M'.1 0 0 = 1)) := (c_mwould hY hd (fun h M' g _ => Or.inl ⟨h, rfl, (g 0 0 (by decide) (by decide)).trans rfl⟩) (fun h M' e => Or.inr ⟨h, e⟩)).up (by decide)
end
-- P 18q
section
-- WHAT STAYS, call for call
set_option maxRecDepth 20000 in
theorem c_kwork {M : fmM} {Q : fmR → fmM → Prop} {nn : Int32} (hI : scInv Tx invX M) (hq : ∀ (r : fmR) (M' : fmM), kpt PXk M M' → Q r M') : pvGood Tx 213 qX10_work [.ref 0, .int nn] M Q := by
  refine pvGood_of (Nat.le_of_ble_eq_true rfl) ?_
  show pvEv Tx 213 qX10_work 0 [some (.ref 0), some (.int nn)] [] M Q
  refine pv_aloadn (pc := 0) (n := 0) 0 rfl rfl (fm_dec dtX10_work 0 rfl) ?_
  refine pv_iloadn (pc := 1) (n := 1) 1 rfl rfl (fm_dec dtX10_work 1 rfl) ?_
  refine pv_sipush (pc := 2) (v := 150) (by decide) (fm_dec dtX10_work 2 rfl) ?_
  refine pv_invV2 (k := 0) (d' := 1) (pc := 5) pcv_X10_108 (by decide) rfl (Nat.le_of_ble_eq_true rfl) (by decide) (fm_dec dtX10_work 3 rfl) ?_
  refine c_openT (fun h5 => ?_) (fun h5 => ?_)
  · refine pv_then0 ?_
    have hI5 := inv_open (n := nn) hI h5.1 (by have h9 : nn.toInt ≤ 150 := h5.2.1; omega)
    refine pv_aloadn (pc := 8) (n := 0) 0 rfl rfl (fm_dec dtX10_work 4 rfl) ?_
    refine pv_getR (k := 0) (j := 9) (ci := 10) (pc := 9) 46 rfl (by decide) pfl_X10_75 (by decide) rfl (by decide) (fm_dec dtX10_work 5 rfl) ?_
    refine pv_getI (k := 46) (j := 2) (ci := 5) (pc := 12) pfl_X10_126 (by decide) rfl (by decide) (fm_dec dtX10_work 6 rfl) ?_
    refine pv_bipush (pc := 15) (v := 16) (by decide) (fm_dec dtX10_work 7 rfl) ?_
    refine pv_icmp_lt (pc := 17) 23 (by decide) (fm_dec dtX10_work 8 rfl) (fun hc17 => ?_) (fun hc17 => ?_)
    · refine pv_aloadn (pc := 23) (n := 0) 0 rfl rfl (fm_dec dtX10_work 11 rfl) ?_
      refine pv_getR (k := 0) (j := 5) (ci := 10) (pc := 24) 28 rfl (by decide) pfl_X10_43 (by decide) rfl (by decide) (fm_dec dtX10_work 12 rfl) ?_
      refine pv_aloadn (pc := 27) (n := 0) 0 rfl rfl (fm_dec dtX10_work 13 rfl) ?_
      refine pv_getR (k := 0) (j := 0) (ci := 10) (pc := 28) 1 rfl (by decide) pfl_X10_12 (by decide) rfl (by decide) (fm_dec dtX10_work 14 rfl) ?_
      refine pv_aloadn (pc := 31) (n := 0) 0 rfl rfl (fm_dec dtX10_work 15 rfl) ?_
      refine pv_getR (k := 0) (j := 1) (ci := 10) (pc := 32) 3 rfl (by decide) pfl_X10_19 (by decide) rfl (by decide) (fm_dec dtX10_work 16 rfl) ?_
      refine pv_getI (k := 3) (j := 9) (ci := 8) (pc := 35) pfl_X10_138 (by decide) rfl (by decide) (fm_dec dtX10_work 17 rfl) ?_
      refine pv_invV2 (k := 28) (d' := 27) (pc := 38) pcv_X10_142 (by decide) rfl (Nat.le_of_ble_eq_true rfl) (by decide) (fm_dec dtX10_work 18 rfl) ?_
      refine c_xread hI5 (hI5.1 3 9 (by decide)) (fun M38 z hI38 f38 h4 hz hz2 hS => ?_) (fun M38 hI38 f38 => ?_)  
      · refine pv_then1 ?_
        refine pv_if_ne (pc := 41) 55 (by decide) (fm_dec dtX10_work 19 rfl) (fun _ => ?_) (fun hc41 => by exfalso; revert hc41; decide)
        refine pv_aloadn (pc := 55) (n := 0) 0 rfl rfl (fm_dec dtX10_work 26 rfl) ?_
        refine pv_getR (k := 0) (j := 9) (ci := 10) (pc := 56) 46 rfl (by decide) pfl_X10_75 (by decide) rfl (by decide) (fm_dec dtX10_work 27 rfl) ?_
        refine pv_invV0 (k := 46) (d' := 1) (pc := 59) pcv_X10_145 (by decide) rfl (Nat.le_of_ble_eq_true rfl) (by decide) (fm_dec dtX10_work 28 rfl) ?_
        refine s_keepx hI38 (fun M59 hI59 f59 => ?_)
        refine pv_then0 ?_
        have hQ9 : xQ M59 z 0 := ⟨hz2, fun i a b => (hS i a b).up (Nat.le_refl _) (fun k hk => (f59 k i (kpW_k (by omega))).1), hI59, (by rw [(f59 28 4 (kpW_k (by decide))).1]; exact h4), by decide⟩
        refine pv_aloadn (pc := 62) (n := 0) 0 rfl rfl (fm_dec dtX10_work 29 rfl) ?_
        refine pv_getR (k := 0) (j := 5) (ci := 10) (pc := 63) 28 rfl (by decide) pfl_X10_43 (by decide) rfl (by decide) (fm_dec dtX10_work 30 rfl) ?_
        refine pv_aloadn (pc := 66) (n := 0) 0 rfl rfl (fm_dec dtX10_work 31 rfl) ?_
        refine pv_getR (k := 0) (j := 6) (ci := 10) (pc := 67) 32 rfl (by decide) pfl_X10_52 (by decide) rfl (by decide) (fm_dec dtX10_work 32 rfl) ?_
        refine pv_aloadn (pc := 70) (n := 0) 0 rfl rfl (fm_dec dtX10_work 33 rfl) ?_
        refine pv_getR (k := 0) (j := 9) (ci := 10) (pc := 71) 46 rfl (by decide) pfl_X10_75 (by decide) rfl (by decide) (fm_dec dtX10_work 34 rfl) ?_
        refine pv_getR (k := 46) (j := 0) (ci := 5) (pc := 74) 47 rfl (by decide) pfl_X10_90 (by decide) rfl (by decide) (fm_dec dtX10_work 35 rfl) ?_
        refine pv_iconst (pc := 77) (v := 0) (by decide) (fm_dec dtX10_work 36 rfl) ?_
        refine pv_aloadn (pc := 78) (n := 0) 0 rfl rfl (fm_dec dtX10_work 37 rfl) ?_
        refine pv_getR (k := 0) (j := 5) (ci := 10) (pc := 79) 28 rfl (by decide) pfl_X10_43 (by decide) rfl (by decide) (fm_dec dtX10_work 38 rfl) ?_
        refine pv_getI (k := 28) (j := 3) (ci := 9) (pc := 82) pfl_X10_148 (by decide) rfl (by decide) (fm_dec dtX10_work 39 rfl) ?_
        refine pv_iconst (pc := 85) (v := 0) (by decide) (fm_dec dtX10_work 40 rfl) ?_
        refine pv_invV5 (k := 28) (d' := (12 + 200)) (pc := 86) pcv_X10_151 (by decide) rfl (Nat.le_of_ble_eq_true rfl) (by decide) (fm_dec dtX10_work 41 rfl) ?_
        refine xp_G (xp_P 200) M59 _ z 0 0 z _ 0 0 hQ9 (by omega) (by decide) (by rw [(f59 28 3 (kpW_k (by decide))).1]; exact hz) (Nat.le_refl _) (fun M86 g86 hI86 f86 hg86 _ _ => ?_) 
        refine pv_then0 ?_
        refine pv_aloadn (pc := 89) (n := 0) 0 rfl rfl (fm_dec dtX10_work 42 rfl) ?_
        refine pv_aloadn (pc := 90) (n := 0) 0 rfl rfl (fm_dec dtX10_work 43 rfl) ?_
        refine pv_getR (k := 0) (j := 5) (ci := 10) (pc := 91) 28 rfl (by decide) pfl_X10_43 (by decide) rfl (by decide) (fm_dec dtX10_work 44 rfl) ?_
        refine pv_getI (k := 28) (j := 6) (ci := 9) (pc := 94) pfl_X10_155 (by decide) rfl (by decide) (fm_dec dtX10_work 45 rfl) ?_
        refine pv_putI (k := 0) (j := 14) (ci := 10) (pc := 97) pfl_X10_132 (by decide) rfl (by decide) (fm_dec dtX10_work 46 rfl) ?_
        refine pv_aloadn (pc := 100) (n := 0) 0 rfl rfl (fm_dec dtX10_work 47 rfl) ?_
        refine pv_getR (k := 0) (j := 7) (ci := 10) (pc := 101) 34 rfl (by decide) pfl_X10_61 (by decide) rfl (by decide) (fm_dec dtX10_work 48 rfl) ?_
        refine pv_invV0 (k := 34) (d' := 0) (pc := 104) pcv_X10_135 (by decide) rfl (Nat.le_of_ble_eq_true rfl) (by decide) (fm_dec dtX10_work 49 rfl) ?_
        refine s_forget (xInv.put hI86 (scq_t _)) (fun M104 hI104 f104 => ?_)
        refine pv_then0 ?_
        refine pv_aloadn (pc := 107) (n := 0) 0 rfl rfl (fm_dec dtX10_work 50 rfl) ?_
        refine pv_getR (k := 0) (j := 5) (ci := 10) (pc := 108) 28 rfl (by decide) pfl_X10_43 (by decide) rfl (by decide) (fm_dec dtX10_work 51 rfl) ?_
        refine pv_getI (k := 28) (j := 5) (ci := 9) (pc := 111) pfl_X10_158 (by decide) rfl (by decide) (fm_dec dtX10_work 52 rfl) ?_
        exact pv_ireturn (pc := 114) rfl (fm_dec dtX10_work 53 rfl) (hq _ _ ((kp_xI (((kp_op.trans (kp_of f38 (by decide))).trans (kp_of f59 (by decide))).trans (kp_of f86 (by decide))) (by decide)).trans (kp_of f104 (by decide))))
      · refine pv_then1 ?_
        refine pv_if_ne (pc := 41) 55 (by decide) (fm_dec dtX10_work 19 rfl) (fun hc41 => by exfalso; revert hc41; decide) (fun _ => ?_)
        refine pv_aloadn (pc := 44) (n := 0) 0 rfl rfl (fm_dec dtX10_work 20 rfl) ?_
        refine pv_getR (k := 0) (j := 0) (ci := 10) (pc := 45) 1 rfl (by decide) pfl_X10_12 (by decide) rfl (by decide) (fm_dec dtX10_work 21 rfl) ?_
        refine pv_getI (k := 1) (j := 4) (ci := 7) (pc := 48) pfl_X10_116 (by decide) rfl (by decide) (fm_dec dtX10_work 22 rfl) ?_
        refine pv_bipush (pc := 51) (v := 10) (by decide) (fm_dec dtX10_work 23 rfl) ?_
        refine pv_isub (pc := 53) (fm_dec dtX10_work 24 rfl) ?_
        exact pv_ireturn (pc := 54) rfl (fm_dec dtX10_work 25 rfl) (hq _ _ (kp_op.trans (kp_of f38 (by decide))))
    · refine pv_bipush (pc := 20) (v := (-20)) (by decide) (fm_dec dtX10_work 9 rfl) ?_
      exact pv_ireturn (pc := 22) rfl (fm_dec dtX10_work 10 rfl) (hq _ _ kp_op)
  · refine pv_thenX ?_
    exact hq _ _ (kp_xI (kpt.refl M) (by decide))
set_option maxRecDepth 20000 in
theorem wk_h0 {Q : fmR → fmM → Prop} {M : fmM} {nn : Int32} {ss : tS} {l w : Nat} (hf : M.1 0 5 = 0) (hI : scInv Tm invM M) (hw : (M.1 0 32).toInt = w) (hw16 : w < 16) (hR : stRep M 0 ss) (hO : ssOk l 0 ss) (hn : ss.length ≤ 80) (hl : l ≤ 8) (h4 : (M.1 4 0).toInt = l) (h26 : (M.1 0 26).toInt = (ss.length : Int)) (hq : ∀ (n : Int32) (M' : fmM), kpt PMk M M' → Q (.inl (some (.int n))) M') : pvEv Tm 213 qX11_work 101 [some (.ref 0), some (.int nn)] [] M Q := by
  refine pv_aloadn (pc := 101) (n := 0) 0 rfl rfl (fm_dec dtX11_work 53 rfl) ?_
  refine pv_getI (k := 0) (j := 5) (ci := 11) (pc := 102) pfl_X11_117 (by decide) rfl (by decide) (fm_dec dtX11_work 54 rfl) ?_
  refine pv_if_eq (pc := 105) 113 (by decide) (fm_dec dtX11_work 55 rfl) (fun _ => ?_) (fun hc105 => by exfalso; exact hc105 hf)
  refine pv_aloadn (pc := 113) (n := 0) 0 rfl rfl (fm_dec dtX11_work 59 rfl) ?_
  refine pv_iconst (pc := 114) (v := (-1)) (by decide) (fm_dec dtX11_work 60 rfl) ?_
  refine pv_putI (k := 0) (j := 3) (ci := 11) (pc := 115) pfl_X11_9 (by decide) rfl (by decide) (fm_dec dtX11_work 61 rfl) ?_
  refine pv_aloadn (pc := 118) (n := 0) 0 rfl rfl (fm_dec dtX11_work 62 rfl) ?_
  refine pv_getR (k := 0) (j := 27) (ci := 11) (pc := 119) 7 rfl (by decide) pfl_X11_61 (by decide) rfl (by decide) (fm_dec dtX11_work 63 rfl) ?_
  refine pv_aloadn (pc := 122) (n := 0) 0 rfl rfl (fm_dec dtX11_work 64 rfl) ?_
  refine pv_getR (k := 0) (j := 29) (ci := 11) (pc := 123) 25 rfl (by decide) pfl_X11_67 (by decide) rfl (by decide) (fm_dec dtX11_work 65 rfl) ?_
  refine pv_aloadn (pc := 126) (n := 0) 0 rfl rfl (fm_dec dtX11_work 66 rfl) ?_
  refine pv_getI (k := 0) (j := 32) (ci := 11) (pc := 127) pfl_X11_200 (by decide) rfl (by decide) (fm_dec dtX11_work 67 rfl) ?_
  refine pv_aald (k := 25) (n := 16) (r := (503 + w)) (pc := 130) (by decide) (Or.inr (Or.inr rfl)) rfl (rw_before.inb hw hw16) (rw_before.at hw hw16) (rw_before.2.2.2 _ hw16).2.1 (fm_dec dtX11_work 68 rfl) ?_
  refine pv_iS2 (d' := 0) (pc := 131) pcs_X11_323 (Nat.le_of_ble_eq_true rfl) (by omega) (fm_dec dtX11_work 69 rfl) ?_
  refine s_keep hw16 (hI.put (k := 0) (j := 3) (x := -1) (by decide) rfl) (fun M131 hI131 f131 => ?_) 
  refine pv_then0 ?_
  refine pv_aloadn (pc := 134) (n := 0) 0 rfl rfl (fm_dec dtX11_work 70 rfl) ?_
  refine pv_dup (pc := 135) rfl (fm_dec dtX11_work 71 rfl) ?_
  refine pv_getI (k := 0) (j := 32) (ci := 11) (pc := 136) pfl_X11_200 (by decide) rfl (by decide) (fm_dec dtX11_work 72 rfl) ?_
  refine pv_iconst (pc := 139) (v := 1) (by decide) (fm_dec dtX11_work 73 rfl) ?_
  refine pv_iadd (pc := 140) (fm_dec dtX11_work 74 rfl) ?_
  refine pv_putI (k := 0) (j := 32) (ci := 11) (pc := 141) pfl_X11_200 (by decide) rfl (by decide) (fm_dec dtX11_work 75 rfl) ?_
  refine pv_aloadn (pc := 144) (n := 0) 0 rfl rfl (fm_dec dtX11_work 76 rfl) ?_
  refine pv_iconst (pc := 145) (v := 0) (by decide) (fm_dec dtX11_work 77 rfl) ?_
  refine pv_putI (k := 0) (j := 36) (ci := 11) (pc := 146) pfl_X11_310 (by decide) rfl (by decide) (fm_dec dtX11_work 78 rfl) ?_
  refine pv_aloadn (pc := 149) (n := 0) 0 rfl rfl (fm_dec dtX11_work 79 rfl) ?_
  refine pv_iconst (pc := 150) (v := 0) (by decide) (fm_dec dtX11_work 80 rfl) ?_
  refine pv_putI (k := 0) (j := 37) (ci := 11) (pc := 151) pfl_X11_320 (by decide) rfl (by decide) (fm_dec dtX11_work 81 rfl) ?_
  refine pv_aloadn (pc := 154) (n := 0) 0 rfl rfl (fm_dec dtX11_work 82 rfl) ?_
  refine pv_iconst (pc := 155) (v := 0) (by decide) (fm_dec dtX11_work 83 rfl) ?_
  refine pv_putI (k := 0) (j := 33) (ci := 11) (pc := 156) pfl_X11_203 (by decide) rfl (by decide) (fm_dec dtX11_work 84 rfl) ?_
  have h32 : M131.1 0 32 = M.1 0 32 := (f131 0 32 rfl).1
  have hI5 : scInv Tm invM (wkM M131) := (by unfold wkM; refine inv_c0g (inv_c0g (inv_c0g (hI131.put (k := 0) (j := 32) ?_ rfl) (Or.inr (Or.inl rfl))) (Or.inr (Or.inr rfl))) (Or.inl rfl); rw [h32]; have h9 := i32_p1 hw (by omega); exact ⟨by show (0 : Int) ≤ _; omega, by show _ ≤ (16 : Int); omega⟩)
  have ek : ∀ k j, k ≠ 0 → k < 503 → (wkM M131).1 k j = M.1 k j := fun k j h0 h1 => (by unfold wkM; rw [fmI_k _ _ h0, fmI_k _ _ h0, fmI_k _ _ h0, fmI_k _ _ h0, (f131 k j (cpW_k h1)).1, fmI_k _ _ h0])
  have e26 : (wkM M131).1 0 26 = M.1 0 26 := (by unfold wkM; rw [fmI_j _ _ (by decide), fmI_j _ _ (by decide), fmI_j _ _ (by decide), fmI_j _ _ (by decide), (f131 0 26 rfl).1, fmI_j _ _ (by decide)])
  have hG5 : gSt (wkM M131) ss.length l 0 := gSt_of (hR.of (by omega) (fun k j a b => ek k j (by omega) b)) hO hn hl (by rw [ek 4 0 (by decide) (by decide)]; exact h4) hI5 rfl
  refine pv_aloadn (pc := 159) (n := 0) 0 rfl rfl (fm_dec dtX11_work 85 rfl) ?_
  refine pv_iconst (pc := 160) (v := 0) (by decide) (fm_dec dtX11_work 86 rfl) ?_
  refine pv_aloadn (pc := 161) (n := 0) 0 rfl rfl (fm_dec dtX11_work 87 rfl) ?_
  refine pv_getI (k := 0) (j := 26) (ci := 11) (pc := 162) pfl_X11_250 (by decide) rfl (by decide) (fm_dec dtX11_work 88 rfl) ?_
  refine pv_invV2 (k := 0) (d' := (12 + 200)) (pc := 165) pcv_X11_313 (by decide) rfl (Nat.le_of_ble_eq_true rfl) (by omega) (fm_dec dtX11_work 89 rfl) ?_
  refine gs_G (gs_P 200) _ _ ss.length l 0 0 ss.length 0 _ hG5 (by omega) (by decide) ((congrArg Int32.toInt e26).trans h26) (Nat.le_refl _) (fun M165 g165 hI165 f165 hg165 _ _ => ?_) 
  refine pv_then0 ?_
  refine pv_aloadn (pc := 168) (n := 0) 0 rfl rfl (fm_dec dtX11_work 90 rfl) ?_
  refine pv_getI (k := 0) (j := 37) (ci := 11) (pc := 169) pfl_X11_320 (by decide) rfl (by decide) (fm_dec dtX11_work 91 rfl) ?_
  exact pv_ireturn (pc := 172) rfl (fm_dec dtX11_work 92 rfl) (hq _ M165 (by refine kpt.trans (fun k j hk => ?_) (kp_of f165 (by decide)); have h9 := kpm_k hk; rw [fmI_at, if_neg (by omega), fmI_at, if_neg (by omega), fmI_at, if_neg (by omega), fmI_at, if_neg (by omega), (f131 k j (cpW_k (by omega))).1, fmI_at, if_neg (by omega)]))
set_option maxRecDepth 20000 in
theorem c_hwork {M : fmM} {Q : fmR → fmM → Prop} {nn : Int32} (hI : scInv Tm invM M) (hq : ∀ (r : fmR) (M' : fmM), kpt PMk M M' → Q r M') : pvGood Tm 213 qX11_work [.ref 0, .int nn] M Q := by
  refine pvGood_of (Nat.le_of_ble_eq_true rfl) ?_
  show pvEv Tm 213 qX11_work 0 [some (.ref 0), some (.int nn)] [] M Q
  obtain ⟨l, h4, hl⟩ := told8 hI
  obtain ⟨w, hw, hw16⟩ := works16 hI
  have hI0 := hI.p00 (x := 0) (Or.inl rfl)
  have hfed := inv_fed hI
  refine pv_aloadn (pc := 0) (n := 0) 0 rfl rfl (fm_dec dtX11_work 0 rfl) ?_
  refine pv_iconst (pc := 1) (v := 0) (by decide) (fm_dec dtX11_work 1 rfl) ?_
  refine pv_putI (k := 0) (j := 0) (ci := 11) (pc := 2) pfl_X11_101 (by decide) rfl (by decide) (fm_dec dtX11_work 2 rfl) ?_
  refine pv_aloadn (pc := 5) (n := 0) 0 rfl rfl (fm_dec dtX11_work 3 rfl) ?_
  refine pv_iloadn (pc := 6) (n := 1) 1 rfl rfl (fm_dec dtX11_work 4 rfl) ?_
  refine pv_iconst (pc := 7) (v := 0) (by decide) (fm_dec dtX11_work 5 rfl) ?_
  refine pv_aloadn (pc := 8) (n := 0) 0 rfl rfl (fm_dec dtX11_work 6 rfl) ?_
  refine pv_getI (k := 0) (j := 1) (ci := 11) (pc := 9) pfl_X11_104 (by decide) rfl (by decide) (fm_dec dtX11_work 7 rfl) ?_
  refine pv_iS3 (d' := 0) (pc := 12) pcs_X11_135 (Nat.le_of_ble_eq_true rfl) (by decide) (fm_dec dtX11_work 8 rfl) ?_
  refine c_in (fun h12a h12b => ?_) (fun h12 => ?_)
  · refine pv_then1 ?_
    refine pv_if_eq (pc := 15) 25 (by decide) (fm_dec dtX11_work 9 rfl) (fun hc15 => by exfalso; revert hc15; decide) (fun _ => ?_)
    refine pv_iloadn (pc := 18) (n := 1) 1 rfl rfl (fm_dec dtX11_work 10 rfl) ?_
    refine pv_sipush (pc := 19) (v := 150) (by decide) (fm_dec dtX11_work 11 rfl) ?_
    refine pv_icmp_le (pc := 22) 29 (by decide) (fm_dec dtX11_work 12 rfl) (fun hc22 => ?_) (fun hc22 => ?_)
    · refine pv_iconst (pc := 29) (v := 0) (by decide) (fm_dec dtX11_work 15 rfl) ?_
      refine pv_iconst (pc := 30) (v := 1) (by decide) (fm_dec dtX11_work 16 rfl) ?_
      refine pv_iconst (pc := 31) (v := 1) (by decide) (fm_dec dtX11_work 17 rfl) ?_
      refine pv_invV3 (k := 0) (d' := 0) (pc := 32) pcv_X11_177 (by decide) rfl (Nat.le_of_ble_eq_true rfl) (by decide) (fm_dec dtX11_work 18 rfl) ?_
      refine c_badF1 rfl ?_
      refine pv_then1 ?_
      refine pv_if_eq (pc := 35) 40 (by decide) (fm_dec dtX11_work 19 rfl) (fun _ => ?_) (fun hc35 => by exfalso; revert hc35; decide)
      refine pv_aloadn (pc := 40) (n := 0) 0 rfl rfl (fm_dec dtX11_work 22 rfl) ?_
      refine pv_getI (k := 0) (j := 32) (ci := 11) (pc := 41) pfl_X11_200 (by decide) rfl (by decide) (fm_dec dtX11_work 23 rfl) ?_
      refine pv_bipush (pc := 44) (v := 16) (by decide) (fm_dec dtX11_work 24 rfl) ?_
      refine pv_icmp_ne (pc := 46) 62 (by decide) (fm_dec dtX11_work 25 rfl) (fun hc46 => ?_) (fun hc46 => ?_)
      · obtain ⟨n0, hn0⟩ : ∃ n0 : Nat, nn.toInt = n0 := ⟨nn.toInt.toNat, by have h9 : (0 : Int32).toInt = 0 := (by decide); omega⟩
        have hn150 : n0 ≤ 150 := (by have h9 := hc22; rw [sc_le] at h9; have h8 : (150 : Int32).toInt = 150 := (by decide); omega)
        have hn6 : n0 ≤ 600 := (by omega)
        refine pv_aloadn (pc := 62) (n := 0) 0 rfl rfl (fm_dec dtX11_work 34 rfl) ?_
        refine pv_iloadn (pc := 63) (n := 1) 1 rfl rfl (fm_dec dtX11_work 35 rfl) ?_
        refine pv_invV1 (k := 0) (d' := 2) (pc := 64) pcv_X11_181 (by decide) rfl (Nat.le_of_ble_eq_true rfl) (by omega) (fm_dec dtX11_work 36 rfl) ?_
        refine c_starts (n := n0) (M := fmI M 0 0 0) hfed hn6 hn0 (fun M64 h64 => ?_) 
        refine pv_then0 ?_
        refine pv_aloadn (pc := 67) (n := 0) 0 rfl rfl (fm_dec dtX11_work 37 rfl) ?_
        refine pv_iconst (pc := 68) (v := 0) (by decide) (fm_dec dtX11_work 38 rfl) ?_
        refine pv_putI (k := 0) (j := 26) (ci := 11) (pc := 69) pfl_X11_250 (by decide) rfl (by decide) (fm_dec dtX11_work 39 rfl) ?_
        have hI64 := inv_st hI h64
        have hok9 := rT_ok (n := n0) hfed hn6
        have hs0 : sk (rT M n0) 0 ≤ n0 := sp_le tB_1 hok9 (Nat.zero_le _)
        have hIs : scInv Tm invM (fmI M64 0 26 0) := hI64.put (scq_t 0) rfl
        have h4s : ((fmI M64 0 26 0).1 4 0).toInt = l := (by rw [fmI_k _ _ (by decide), st_k h64 (by decide)]; exact h4)
        have hP : srPre (fmI M64 0 26 0) (rT M n0) n0 (sk (rT M n0) 0) 0 0 l := ⟨h64.1.of rfl rfl rfl, h64.2.1, (by show (M64.1 0 8).toInt = _; rw [h64.2.2.1]; decide), by decide, (by rw [fmI_s]; decide), by omega, hn150, h4s, hl⟩
        have hbd := fun e he => wkL_bad hok9 hn150 700 0 (sk (rT M n0) 0) e hs0 (by omega) he (l := l)
        refine wk_loop (l := l) 700 0 _ _ hP (fun a h9 => by have h8 := (hbd _ h9).1.2; exact absurd h8 (show ¬ 9 ≤ 3 by decide)) (fun M2 ss q e h => ?_) (fun M2 k a e hB => ?_)
        · have g := wkL_ok hok9 700 0 _ ss hs0 e
          refine wk_h0 (l := l) (w := w) h.2.1 (inv_sr hIs h.2.2.2.2.2) (by rw [h.2.2.2.2.2.2.1 32 (by decide) (by decide) (by decide) (by decide) (by decide), fmI_j _ _ (by decide), st_j h64 (by decide)]; exact hw) (by have h9 : ¬ w = 16 := (fun h9 => hc46 (i32_ext (hw.trans (by rw [h9]; decide)))); omega) h.2.2.2.2.1 g.1 (by omega) hl (by rw [h.2.2.2.2.2.1 4 0 (by decide) (by omega)]; exact h4s) (by rw [h.2.2.2.1]; congr 1; omega) (fun n M9 h9 => hq _ _ ((kp_mI (kp_st h64) (by decide)).trans ((kp_sr h.2.2.2.2.2).trans h9)))
        · have hk := hbd _ e
          exact wk_e1 hB.nz (hq _ _ (kp_mI ((kp_mI (kp_st h64) (by decide)).trans (kp_sr hB.2.2.2.2)) (by decide)))
      · refine pv_aloadn (pc := 49) (n := 0) 0 rfl rfl (fm_dec dtX11_work 26 rfl) ?_
        refine pv_iconst (pc := 50) (v := 0) (by decide) (fm_dec dtX11_work 27 rfl) ?_
        refine pv_putI (k := 0) (j := 1) (ci := 11) (pc := 51) pfl_X11_104 (by decide) rfl (by decide) (fm_dec dtX11_work 28 rfl) ?_
        refine pv_aloadn (pc := 54) (n := 0) 0 rfl rfl (fm_dec dtX11_work 29 rfl) ?_
        refine pv_iconst (pc := 55) (v := (-1)) (by decide) (fm_dec dtX11_work 30 rfl) ?_
        refine pv_putI (k := 0) (j := 3) (ci := 11) (pc := 56) pfl_X11_9 (by decide) rfl (by decide) (fm_dec dtX11_work 31 rfl) ?_
        refine pv_bipush (pc := 59) (v := (-20)) (by decide) (fm_dec dtX11_work 32 rfl) ?_
        exact pv_ireturn (pc := 61) rfl (fm_dec dtX11_work 33 rfl) (hq _ _ (kp_mI (kp_mI (kp_mI (kpt.refl M) (by decide)) (by decide)) (by decide)))
    · refine pv_iconst (pc := 25) (v := 1) (by decide) (fm_dec dtX11_work 13 rfl) ?_
      refine pv_goto (pc := 26) 30 (by decide) (fm_dec dtX11_work 14 rfl) ?_
      refine pv_iconst (pc := 30) (v := 1) (by decide) (fm_dec dtX11_work 16 rfl) ?_
      refine pv_iconst (pc := 31) (v := 1) (by decide) (fm_dec dtX11_work 17 rfl) ?_
      refine pv_invV3 (k := 0) (d' := 0) (pc := 32) pcv_X11_177 (by decide) rfl (Nat.le_of_ble_eq_true rfl) (by decide) (fm_dec dtX11_work 18 rfl) ?_
      refine c_badT1 rfl (by decide) ?_
      refine pv_then1 ?_
      refine pv_if_eq (pc := 35) 40 (by decide) (fm_dec dtX11_work 19 rfl) (fun hc35 => by exfalso; revert hc35; decide) (fun _ => ?_)
      refine pv_iconst (pc := 38) (v := 0) (by decide) (fm_dec dtX11_work 20 rfl) ?_
      exact pv_ireturn (pc := 39) rfl (fm_dec dtX11_work 21 rfl) (hq _ _ kp_rf)
  · refine pv_then1 ?_
    refine pv_if_eq (pc := 15) 25 (by decide) (fm_dec dtX11_work 9 rfl) (fun _ => ?_) (fun hc15 => by exfalso; revert hc15; decide)
    refine pv_iconst (pc := 25) (v := 1) (by decide) (fm_dec dtX11_work 13 rfl) ?_
    refine pv_goto (pc := 26) 30 (by decide) (fm_dec dtX11_work 14 rfl) ?_
    refine pv_iconst (pc := 30) (v := 1) (by decide) (fm_dec dtX11_work 16 rfl) ?_
    refine pv_iconst (pc := 31) (v := 1) (by decide) (fm_dec dtX11_work 17 rfl) ?_
    refine pv_invV3 (k := 0) (d' := 0) (pc := 32) pcv_X11_177 (by decide) rfl (Nat.le_of_ble_eq_true rfl) (by decide) (fm_dec dtX11_work 18 rfl) ?_
    refine c_badT1 rfl (by decide) ?_
    refine pv_then1 ?_
    refine pv_if_eq (pc := 35) 40 (by decide) (fm_dec dtX11_work 19 rfl) (fun hc35 => by exfalso; revert hc35; decide) (fun _ => ?_)
    refine pv_iconst (pc := 38) (v := 0) (by decide) (fm_dec dtX11_work 20 rfl) ?_
    exact pv_ireturn (pc := 39) rfl (fm_dec dtX11_work 21 rfl) (hq _ _ kp_rf)
theorem s_im0 {M : fmM} {Q : fmR → fmM → Prop} {k0 : Nat} (hk0 : k0 ∈ [82, 118, 154]) (hI : scInv Tx invX M) (q0 : ∀ M' : fmM, scInv Tx invX M' → scFr [(82, 2, 1), (83, 1, 6), (84, 0, 8), (86, 1, 6), (87, 1, 6), (88, 1, 6), (89, 1, 6), (90, 1, 6), (91, 1, 6), (92, 1, 6), (93, 1, 6), (94, 1, 6), (95, 1, 6), (96, 1, 6), (97, 1, 6), (98, 1, 6), (99, 1, 6), (100, 1, 6), (101, 1, 6), (102, 0, 8), (103, 0, 8), (104, 0, 8), (105, 0, 8), (106, 0, 8), (107, 0, 8), (108, 0, 8), (109, 0, 8), (110, 0, 8), (111, 0, 8), (112, 0, 8), (113, 0, 8), (114, 0, 8), (115, 0, 8), (116, 0, 8), (117, 0, 8), (118, 2, 1), (119, 1, 6), (120, 0, 8), (122, 1, 6), (123, 1, 6), (124, 1, 6), (125, 1, 6), (126, 1, 6), (127, 1, 6), (128, 1, 6), (129, 1, 6), (130, 1, 6), (131, 1, 6), (132, 1, 6), (133, 1, 6), (134, 1, 6), (135, 1, 6), (136, 1, 6), (137, 1, 6), (138, 0, 8), (139, 0, 8), (140, 0, 8), (141, 0, 8), (142, 0, 8), (143, 0, 8), (144, 0, 8), (145, 0, 8), (146, 0, 8), (147, 0, 8), (148, 0, 8), (149, 0, 8), (150, 0, 8), (151, 0, 8), (152, 0, 8), (153, 0, 8), (154, 2, 1), (155, 1, 6), (156, 0, 8), (158, 1, 6), (159, 1, 6), (160, 1, 6), (161, 1, 6), (162, 1, 6), (163, 1, 6), (164, 1, 6), (165, 1, 6), (166, 1, 6), (167, 1, 6), (168, 1, 6), (169, 1, 6), (170, 1, 6), (171, 1, 6), (172, 1, 6), (173, 1, 6), (174, 0, 8), (175, 0, 8), (176, 0, 8), (177, 0, 8), (178, 0, 8), (179, 0, 8), (180, 0, 8), (181, 0, 8), (182, 0, 8), (183, 0, 8), (184, 0, 8), (185, 0, 8), (186, 0, 8), (187, 0, 8), (188, 0, 8), (189, 0, 8)] M M' → Q (.inl none) M') : pvGood Tx 1 qX5_copyFrom [.ref k0, .ref 46] M Q := (hh_X5_copyFrom_0 M [] [.ref k0, .ref 46] scEk.n0 ⟨⟨k0, hk0, rfl⟩, ⟨46, by simp, rfl⟩, trivial⟩ (fun f hf => by cases hf) hI).imp (fun r M' h => by
  obtain ⟨⟨o, ho, hr, hf9, hm⟩, h1, h2⟩ := h
  rcases List.mem_cons.mp ho with rfl | ho
  · have hr : r = .inl none := hr; subst hr; exact q0 M' h1 h2
  · cases ho)
theorem s_im1 {M : fmM} {Q : fmR → fmM → Prop} {k1 : Nat} (hk1 : k1 ∈ [82, 118, 154]) (hI : scInv Tx invX M) (q0 : ∀ M' : fmM, scInv Tx invX M' → scFr [(46, 2, 1), (47, 1, 6), (48, 0, 8), (50, 1, 6), (51, 1, 6), (52, 1, 6), (53, 1, 6), (54, 1, 6), (55, 1, 6), (56, 1, 6), (57, 1, 6), (58, 1, 6), (59, 1, 6), (60, 1, 6), (61, 1, 6), (62, 1, 6), (63, 1, 6), (64, 1, 6), (65, 1, 6), (66, 0, 8), (67, 0, 8), (68, 0, 8), (69, 0, 8), (70, 0, 8), (71, 0, 8), (72, 0, 8), (73, 0, 8), (74, 0, 8), (75, 0, 8), (76, 0, 8), (77, 0, 8), (78, 0, 8), (79, 0, 8), (80, 0, 8), (81, 0, 8)] M M' → Q (.inl none) M') : pvGood Tx 1 qX5_copyFrom [.ref 46, .ref k1] M Q := (hh_X5_copyFrom_1 M [] [.ref 46, .ref k1] scEk.n0 ⟨⟨46, by simp, rfl⟩, ⟨k1, hk1, rfl⟩, trivial⟩ (fun f hf => by cases hf) hI).imp (fun r M' h => by
  obtain ⟨⟨o, ho, hr, hf9, hm⟩, h1, h2⟩ := h
  rcases List.mem_cons.mp ho with rfl | ho
  · have hr : r = .inl none := hr; subst hr; exact q0 M' h1 h2
  · cases ho)
theorem xi_at {x : Int32} {i : Nat} (h : x.toInt = i) (h3 : i < 3) : Tx.2.2.2 43 x.toNatClampNeg = 82 + 36 * i := by
  rw [i32_cl h]
  match i, h3 with
  | 0, _ => rfl
  | 1, _ => rfl
  | 2, _ => rfl
  | i + 3, h => omega
theorem xi_kd {i : Nat} (h3 : i < 3) : Tx.2.1 (82 + 36 * i) = Tx.2.1 82 := by
  match i, h3 with
  | 0, _ => rfl
  | 1, _ => rfl
  | 2, _ => rfl
  | i + 3, h => omega
theorem xi_in {i : Nat} (h3 : i < 3) : 82 + 36 * i ∈ [82, 118, 154] := by
  match i, h3 with
  | 0, _ => simp
  | 1, _ => simp
  | 2, _ => simp
  | i + 3, h => omega
set_option maxRecDepth 20000 in
theorem c_ximage {M : fmM} {Q : fmR → fmM → Prop} {i : Nat} (hI : scInv Tx invX M) (hi : (M.1 0 13).toInt = (i : Int)) (h4 : i ≤ 3) (hn : i = 3 → Q (.inl (some (.int (-1)))) M) (hq : i < 3 → ∀ (M' : fmM) (r : Int32), r.toInt = ((i + 1 : Nat) : Int) → M'.1 0 13 = r → Q (.inl (some (.int r))) M') : pvGood Tx 2 qX10_image [.ref 0] M Q := by
  refine pvGood_of (Nat.le_of_ble_eq_true rfl) ?_
  show pvEv Tx 2 qX10_image 0 [some (.ref 0)] [] M Q
  refine pv_aloadn (pc := 0) (n := 0) 0 rfl rfl (fm_dec dtX10_image 0 rfl) ?_
  refine pv_getI (k := 0) (j := 13) (ci := 10) (pc := 1) pfl_X10_129 (by decide) rfl (by decide) (fm_dec dtX10_image 1 rfl) ?_
  refine pv_iconst (pc := 4) (v := 3) (by decide) (fm_dec dtX10_image 2 rfl) ?_
  refine pv_icmp_lt (pc := 5) 10 (by decide) (fm_dec dtX10_image 3 rfl) (fun hc5 => ?_) (fun hc5 => ?_)
  · have z3 : (3 : Int32).toInt = 3 := (by decide)
    have h3 : i < 3 := (by rw [sc_lt] at hc5; omega)
    refine pv_aloadn (pc := 10) (n := 0) 0 rfl rfl (fm_dec dtX10_image 6 rfl) ?_
    refine pv_getR (k := 0) (j := 10) (ci := 10) (pc := 11) 43 rfl (by decide) pfl_X10_79 (by decide) rfl (by decide) (fm_dec dtX10_image 7 rfl) ?_
    refine pv_aloadn (pc := 14) (n := 0) 0 rfl rfl (fm_dec dtX10_image 8 rfl) ?_
    refine pv_getI (k := 0) (j := 13) (ci := 10) (pc := 15) pfl_X10_129 (by decide) rfl (by decide) (fm_dec dtX10_image 9 rfl) ?_
    refine pv_aald (k := 43) (n := 3) (r := (82 + 36 * i)) (pc := 18) (by decide) (Or.inl rfl) rfl (ix_in hi h3) (xi_at hi h3) (by omega) (fm_dec dtX10_image 10 rfl) ?_
    refine pv_aloadn (pc := 19) (n := 0) 0 rfl rfl (fm_dec dtX10_image 11 rfl) ?_
    refine pv_getR (k := 0) (j := 9) (ci := 10) (pc := 20) 46 rfl (by decide) pfl_X10_75 (by decide) rfl (by decide) (fm_dec dtX10_image 12 rfl) ?_
    refine pv_invV1 (k := (82 + 36 * i)) (d' := 1) (pc := 23) pcv_X10_360 (show 82 + 36 * i < 190 by omega) ((xi_kd h3).trans rfl) (Nat.le_of_ble_eq_true rfl) (by decide) (fm_dec dtX10_image 13 rfl) ?_
    refine s_im0 (xi_in h3) hI (fun M23 hI23 f23 => ?_)
    refine pv_then0 ?_
    refine pv_aloadn (pc := 26) (n := 0) 0 rfl rfl (fm_dec dtX10_image 14 rfl) ?_
    refine pv_dup (pc := 27) rfl (fm_dec dtX10_image 15 rfl) ?_
    refine pv_getI (k := 0) (j := 13) (ci := 10) (pc := 28) pfl_X10_129 (by decide) rfl (by decide) (fm_dec dtX10_image 16 rfl) ?_
    refine pv_iconst (pc := 31) (v := 1) (by decide) (fm_dec dtX10_image 17 rfl) ?_
    refine pv_iadd (pc := 32) (fm_dec dtX10_image 18 rfl) ?_
    refine pv_putI (k := 0) (j := 13) (ci := 10) (pc := 33) pfl_X10_129 (by decide) rfl (by decide) (fm_dec dtX10_image 19 rfl) ?_
    refine pv_aloadn (pc := 36) (n := 0) 0 rfl rfl (fm_dec dtX10_image 20 rfl) ?_
    refine pv_getI (k := 0) (j := 13) (ci := 10) (pc := 37) pfl_X10_129 (by decide) rfl (by decide) (fm_dec dtX10_image 21 rfl) ?_
    exact pv_ireturn (pc := 40) rfl (fm_dec dtX10_image 22 rfl) (hq h3 _ _ (by show (M23.1 0 13 + 1).toInt = _; rw [(f23 0 13 rfl).1]; exact i32_p1 hi (by omega)) rfl)
  · refine pv_iconst (pc := 8) (v := (-1)) (by decide) (fm_dec dtX10_image 4 rfl) ?_
    exact pv_ireturn (pc := 9) rfl (fm_dec dtX10_image 5 rfl) (hn (by have z3 : (3 : Int32).toInt = 3 := (by decide); rw [sc_lt] at hc5; omega))
set_option maxRecDepth 20000 in
theorem c_xrest {M : fmM} {Q : fmR → fmM → Prop} {i : Nat} (hI : scInv Tx invX M) (hi : (M.1 0 13).toInt = (i : Int)) (h4 : i ≤ 3) (hn : i = 0 → Q (.inl (some (.int (-1)))) M) (hq : 0 < i → ∀ (M' : fmM) (r : Int32), r.toInt = ((i - 1 : Nat) : Int) → M'.1 0 13 = r → Q (.inl (some (.int r))) M') : pvGood Tx 2 qX10_restore [.ref 0] M Q := by
  refine pvGood_of (Nat.le_of_ble_eq_true rfl) ?_
  show pvEv Tx 2 qX10_restore 0 [some (.ref 0)] [] M Q
  refine pv_aloadn (pc := 0) (n := 0) 0 rfl rfl (fm_dec dtX10_restore 0 rfl) ?_
  refine pv_getI (k := 0) (j := 13) (ci := 10) (pc := 1) pfl_X10_129 (by decide) rfl (by decide) (fm_dec dtX10_restore 1 rfl) ?_
  refine pv_if_gt (pc := 4) 9 (by decide) (fm_dec dtX10_restore 2 rfl) (fun hc4 => ?_) (fun hc4 => ?_)
  · have z0 : (0 : Int32).toInt = 0 := (by decide)
    have h0 : 0 < i := (by rw [sc_lt] at hc4; omega)
    have e1 : (M.1 0 13 - 1).toInt = ((i - 1 : Nat) : Int) := (by have z1 : (1 : Int32).toInt = 1 := (by decide); rw [sc_sub (by omega) (by omega)]; omega)
    have hI1 : scInv Tx invX (fmI M 0 13 (M.1 0 13 - 1)) := xInv.put hI ⟨by show (0 : Int) ≤ _; omega, by show _ ≤ (3 : Int); omega⟩
    refine pv_aloadn (pc := 9) (n := 0) 0 rfl rfl (fm_dec dtX10_restore 5 rfl) ?_
    refine pv_dup (pc := 10) rfl (fm_dec dtX10_restore 6 rfl) ?_
    refine pv_getI (k := 0) (j := 13) (ci := 10) (pc := 11) pfl_X10_129 (by decide) rfl (by decide) (fm_dec dtX10_restore 7 rfl) ?_
    refine pv_iconst (pc := 14) (v := 1) (by decide) (fm_dec dtX10_restore 8 rfl) ?_
    refine pv_isub (pc := 15) (fm_dec dtX10_restore 9 rfl) ?_
    refine pv_putI (k := 0) (j := 13) (ci := 10) (pc := 16) pfl_X10_129 (by decide) rfl (by decide) (fm_dec dtX10_restore 10 rfl) ?_
    refine pv_aloadn (pc := 19) (n := 0) 0 rfl rfl (fm_dec dtX10_restore 11 rfl) ?_
    refine pv_getR (k := 0) (j := 9) (ci := 10) (pc := 20) 46 rfl (by decide) pfl_X10_75 (by decide) rfl (by decide) (fm_dec dtX10_restore 12 rfl) ?_
    refine pv_aloadn (pc := 23) (n := 0) 0 rfl rfl (fm_dec dtX10_restore 13 rfl) ?_
    refine pv_getR (k := 0) (j := 10) (ci := 10) (pc := 24) 43 rfl (by decide) pfl_X10_79 (by decide) rfl (by decide) (fm_dec dtX10_restore 14 rfl) ?_
    refine pv_aloadn (pc := 27) (n := 0) 0 rfl rfl (fm_dec dtX10_restore 15 rfl) ?_
    refine pv_getI (k := 0) (j := 13) (ci := 10) (pc := 28) pfl_X10_129 (by decide) rfl (by decide) (fm_dec dtX10_restore 16 rfl) ?_
    refine pv_aald (k := 43) (n := 3) (r := (82 + 36 * (i - 1))) (pc := 31) (by decide) (Or.inl rfl) rfl (ix_in e1 (by omega)) (xi_at e1 (by omega)) (by omega) (fm_dec dtX10_restore 17 rfl) ?_
    refine pv_invV1 (k := 46) (d' := 1) (pc := 32) pcv_X10_360 (by decide) rfl (Nat.le_of_ble_eq_true rfl) (by decide) (fm_dec dtX10_restore 18 rfl) ?_
    refine s_im1 (xi_in (by omega)) hI1 (fun M32 hI32 f32 => ?_)
    refine pv_then0 ?_
    refine pv_aloadn (pc := 35) (n := 0) 0 rfl rfl (fm_dec dtX10_restore 19 rfl) ?_
    refine pv_iconst (pc := 36) (v := 0) (by decide) (fm_dec dtX10_restore 20 rfl) ?_
    refine pv_putI (k := 0) (j := 14) (ci := 10) (pc := 37) pfl_X10_132 (by decide) rfl (by decide) (fm_dec dtX10_restore 21 rfl) ?_
    refine pv_aloadn (pc := 40) (n := 0) 0 rfl rfl (fm_dec dtX10_restore 22 rfl) ?_
    refine pv_getR (k := 0) (j := 7) (ci := 10) (pc := 41) 34 rfl (by decide) pfl_X10_61 (by decide) rfl (by decide) (fm_dec dtX10_restore 23 rfl) ?_
    refine pv_invV0 (k := 34) (d' := 0) (pc := 44) pcv_X10_135 (by decide) rfl (Nat.le_of_ble_eq_true rfl) (by decide) (fm_dec dtX10_restore 24 rfl) ?_
    refine s_forget (xInv.put hI32 (scq_t _)) (fun M44 hI44 f44 => ?_)
    refine pv_then0 ?_
    refine pv_aloadn (pc := 47) (n := 0) 0 rfl rfl (fm_dec dtX10_restore 25 rfl) ?_
    refine pv_getI (k := 0) (j := 13) (ci := 10) (pc := 48) pfl_X10_129 (by decide) rfl (by decide) (fm_dec dtX10_restore 26 rfl) ?_
    exact pv_ireturn (pc := 51) rfl (fm_dec dtX10_restore 27 rfl) (hq h0 _ _ (by rw [(f44 0 13 rfl).1]; show (M32.1 0 13).toInt = _; rw [(f32 0 13 rfl).1]; exact e1) rfl)
  · refine pv_iconst (pc := 7) (v := (-1)) (by decide) (fm_dec dtX10_restore 3 rfl) ?_
    exact pv_ireturn (pc := 8) rfl (fm_dec dtX10_restore 4 rfl) (hn (by have z0 : (0 : Int32).toInt = 0 := (by decide); rw [sc_lt] at hc4; omega))
set_option maxRecDepth 20000 in
theorem c_mimage {M : fmM} {Q : fmR → fmM → Prop} {i : Nat} (hi : (M.1 0 34).toInt = (i : Int)) (h4 : i ≤ 3) (hn : i = 3 → ∀ M' : fmM, M'.1 0 34 = M.1 0 34 → Q (.inl (some (.int (-1)))) M') (hq : i < 3 → ∀ (M' : fmM) (r : Int32), r.toInt = ((i + 1 : Nat) : Int) → M'.1 0 34 = r → Q (.inl (some (.int r))) M') : pvGood Tm 2 qX11_image [.ref 0] M Q := by
  refine pvGood_of (Nat.le_of_ble_eq_true rfl) ?_
  show pvEv Tm 2 qX11_image 0 [some (.ref 0)] [] M Q
  refine pv_aloadn (pc := 0) (n := 0) 0 rfl rfl (fm_dec dtX11_image 0 rfl) ?_
  refine pv_iconst (pc := 1) (v := 0) (by decide) (fm_dec dtX11_image 1 rfl) ?_
  refine pv_putI (k := 0) (j := 0) (ci := 11) (pc := 2) pfl_X11_101 (by decide) rfl (by decide) (fm_dec dtX11_image 2 rfl) ?_
  refine pv_aloadn (pc := 5) (n := 0) 0 rfl rfl (fm_dec dtX11_image 3 rfl) ?_
  refine pv_getI (k := 0) (j := 34) (ci := 11) (pc := 6) pfl_X11_206 (by decide) rfl (by decide) (fm_dec dtX11_image 4 rfl) ?_
  refine pv_iconst (pc := 9) (v := 3) (by decide) (fm_dec dtX11_image 5 rfl) ?_
  refine pv_icmp_ne (pc := 10) 15 (by decide) (fm_dec dtX11_image 6 rfl) (fun hc10 => ?_) (fun hc10 => ?_)
  · have z3 : (3 : Int32).toInt = 3 := (by decide)
    have h3 : i < 3 := (by have h9 : ¬ i = 3 := (fun h9 => hc10 (i32_ext (by show (M.1 0 34).toInt = _; omega))); omega)
    refine pv_aloadn (pc := 15) (n := 0) 0 rfl rfl (fm_dec dtX11_image 9 rfl) ?_
    refine pv_aloadn (pc := 16) (n := 0) 0 rfl rfl (fm_dec dtX11_image 10 rfl) ?_
    refine pv_getR (k := 0) (j := 30) (ci := 11) (pc := 17) 26 rfl (by decide) pfl_X11_70 (by decide) rfl (by decide) (fm_dec dtX11_image 11 rfl) ?_
    refine pv_aloadn (pc := 20) (n := 0) 0 rfl rfl (fm_dec dtX11_image 12 rfl) ?_
    refine pv_getI (k := 0) (j := 34) (ci := 11) (pc := 21) pfl_X11_206 (by decide) rfl (by decide) (fm_dec dtX11_image 13 rfl) ?_
    refine pv_aald (k := 26) (n := 3) (r := (519 + i)) (pc := 24) (by decide) (Or.inr (Or.inr rfl)) rfl (rw_kept.inb hi h3) (rw_kept.at hi h3) (rw_kept.2.2.2 i h3).2.1 (fm_dec dtX11_image 14 rfl) ?_
    refine pv_iconst (pc := 25) (v := 0) (by decide) (fm_dec dtX11_image 15 rfl) ?_
    refine pv_invV2 (k := 0) (d' := 1) (pc := 26) pcv_X11_443 (by decide) rfl (Nat.le_of_ble_eq_true rfl) (by decide) (fm_dec dtX11_image 16 rfl) ?_
    refine c_putsAll0 h3 (fun M26 p26 => ?_)
    refine pv_then0 ?_
    refine pv_aloadn (pc := 29) (n := 0) 0 rfl rfl (fm_dec dtX11_image 17 rfl) ?_
    refine pv_dup (pc := 30) rfl (fm_dec dtX11_image 18 rfl) ?_
    refine pv_getI (k := 0) (j := 34) (ci := 11) (pc := 31) pfl_X11_206 (by decide) rfl (by decide) (fm_dec dtX11_image 19 rfl) ?_
    refine pv_iconst (pc := 34) (v := 1) (by decide) (fm_dec dtX11_image 20 rfl) ?_
    refine pv_iadd (pc := 35) (fm_dec dtX11_image 21 rfl) ?_
    refine pv_putI (k := 0) (j := 34) (ci := 11) (pc := 36) pfl_X11_206 (by decide) rfl (by decide) (fm_dec dtX11_image 22 rfl) ?_
    refine pv_aloadn (pc := 39) (n := 0) 0 rfl rfl (fm_dec dtX11_image 23 rfl) ?_
    refine pv_getI (k := 0) (j := 34) (ci := 11) (pc := 40) pfl_X11_206 (by decide) rfl (by decide) (fm_dec dtX11_image 24 rfl) ?_
    exact pv_ireturn (pc := 43) rfl (fm_dec dtX11_image 25 rfl) (hq h3 _ _ (by show (M26.1 0 34 + 1).toInt = _; rw [p26.2.1 0 34 (by omega) (by decide)]; exact i32_p1 hi (by omega)) rfl)
  · refine pv_iconst (pc := 13) (v := (-1)) (by decide) (fm_dec dtX11_image 7 rfl) ?_
    exact pv_ireturn (pc := 14) rfl (fm_dec dtX11_image 8 rfl) (hn (by have z3 : (3 : Int32).toInt = 3 := (by decide); have h9 : (M.1 0 34).toInt = (3 : Int32).toInt := congrArg Int32.toInt hc10; omega) _ rfl)
theorem sl_34 : ∀ t, t < 239 → ¬ ((sl t).1 = 0 ∧ (sl t).2 = 34) := by decide +kernel
set_option maxRecDepth 20000 in
theorem c_mrest {M : fmM} {Q : fmR → fmM → Prop} {i : Nat} (hi : (M.1 0 34).toInt = (i : Int)) (h4 : i ≤ 3) (hn : i = 0 → ∀ M' : fmM, M'.1 0 34 = M.1 0 34 → Q (.inl (some (.int (-1)))) M') (hq : 0 < i → ∀ (M' : fmM) (r : Int32), r.toInt = ((i - 1 : Nat) : Int) → M'.1 0 34 = r → Q (.inl (some (.int r))) M') : pvGood Tm 2 qX11_restore [.ref 0] M Q := by
  refine pvGood_of (Nat.le_of_ble_eq_true rfl) ?_
  show pvEv Tm 2 qX11_restore 0 [some (.ref 0)] [] M Q
  refine pv_aloadn (pc := 0) (n := 0) 0 rfl rfl (fm_dec dtX11_restore 0 rfl) ?_
  refine pv_iconst (pc := 1) (v := 0) (by decide) (fm_dec dtX11_restore 1 rfl) ?_
  refine pv_putI (k := 0) (j := 0) (ci := 11) (pc := 2) pfl_X11_101 (by decide) rfl (by decide) (fm_dec dtX11_restore 2 rfl) ?_
  refine pv_aloadn (pc := 5) (n := 0) 0 rfl rfl (fm_dec dtX11_restore 3 rfl) ?_
  refine pv_getI (k := 0) (j := 34) (ci := 11) (pc := 6) pfl_X11_206 (by decide) rfl (by decide) (fm_dec dtX11_restore 4 rfl) ?_
  refine pv_if_ne (pc := 9) 14 (by decide) (fm_dec dtX11_restore 5 rfl) (fun hc9 => ?_) (fun hc9 => ?_)
  · have hi0 : ((fmI M 0 0 0).1 0 34).toInt = (i : Int) := hi
    have h0 : 0 < i := (by have h9 : ¬ i = 0 := (fun h9 => hc9 (i32_ext (by show (M.1 0 34).toInt = _; rw [hi, h9]; decide))); omega)
    have e1 : ((fmI M 0 0 0).1 0 34 - 1).toInt = ((i - 1 : Nat) : Int) := (by have z1 : (1 : Int32).toInt = 1 := (by decide); rw [sc_sub (by omega) (by omega)]; omega)
    refine pv_aloadn (pc := 14) (n := 0) 0 rfl rfl (fm_dec dtX11_restore 8 rfl) ?_
    refine pv_dup (pc := 15) rfl (fm_dec dtX11_restore 9 rfl) ?_
    refine pv_getI (k := 0) (j := 34) (ci := 11) (pc := 16) pfl_X11_206 (by decide) rfl (by decide) (fm_dec dtX11_restore 10 rfl) ?_
    refine pv_iconst (pc := 19) (v := 1) (by decide) (fm_dec dtX11_restore 11 rfl) ?_
    refine pv_isub (pc := 20) (fm_dec dtX11_restore 12 rfl) ?_
    refine pv_putI (k := 0) (j := 34) (ci := 11) (pc := 21) pfl_X11_206 (by decide) rfl (by decide) (fm_dec dtX11_restore 13 rfl) ?_
    refine pv_aloadn (pc := 24) (n := 0) 0 rfl rfl (fm_dec dtX11_restore 14 rfl) ?_
    refine pv_aloadn (pc := 25) (n := 0) 0 rfl rfl (fm_dec dtX11_restore 15 rfl) ?_
    refine pv_getR (k := 0) (j := 30) (ci := 11) (pc := 26) 26 rfl (by decide) pfl_X11_70 (by decide) rfl (by decide) (fm_dec dtX11_restore 16 rfl) ?_
    refine pv_aloadn (pc := 29) (n := 0) 0 rfl rfl (fm_dec dtX11_restore 17 rfl) ?_
    refine pv_getI (k := 0) (j := 34) (ci := 11) (pc := 30) pfl_X11_206 (by decide) rfl (by decide) (fm_dec dtX11_restore 18 rfl) ?_
    refine pv_aald (k := 26) (n := 3) (r := (519 + (i - 1))) (pc := 33) (by decide) (Or.inr (Or.inr rfl)) rfl (rw_kept.inb e1 (by omega)) (rw_kept.at e1 (by omega)) (rw_kept.2.2.2 (i - 1) (by omega)).2.1 (fm_dec dtX11_restore 19 rfl) ?_
    refine pv_iconst (pc := 34) (v := 1) (by decide) (fm_dec dtX11_restore 20 rfl) ?_
    refine pv_invV2 (k := 0) (d' := 1) (pc := 35) pcv_X11_443 (by decide) rfl (Nat.le_of_ble_eq_true rfl) (by decide) (fm_dec dtX11_restore 21 rfl) ?_
    refine c_putsAll1 (i := i - 1) (by omega) (fun M35 p35 => ?_)
    refine pv_then0 ?_
    refine pv_aloadn (pc := 38) (n := 0) 0 rfl rfl (fm_dec dtX11_restore 22 rfl) ?_
    refine pv_iconst (pc := 39) (v := 0) (by decide) (fm_dec dtX11_restore 23 rfl) ?_
    refine pv_putI (k := 0) (j := 33) (ci := 11) (pc := 40) pfl_X11_203 (by decide) rfl (by decide) (fm_dec dtX11_restore 24 rfl) ?_
    refine pv_aloadn (pc := 43) (n := 0) 0 rfl rfl (fm_dec dtX11_restore 25 rfl) ?_
    refine pv_getI (k := 0) (j := 34) (ci := 11) (pc := 44) pfl_X11_206 (by decide) rfl (by decide) (fm_dec dtX11_restore 26 rfl) ?_
    exact pv_ireturn (pc := 47) rfl (fm_dec dtX11_restore 27 rfl) (hq h0 _ _ (by show (M35.1 0 34).toInt = _; rw [p35.2.1 0 34 (fun t h9 => sl_34 t h9) (by decide)]; exact e1) rfl)
  · refine pv_iconst (pc := 12) (v := (-1)) (by decide) (fm_dec dtX11_restore 6 rfl) ?_
    exact pv_ireturn (pc := 13) rfl (fm_dec dtX11_restore 7 rfl) (hn (by have h9 : (M.1 0 34).toInt = (0 : Int32).toInt := congrArg Int32.toInt hc9; have z0 : (0 : Int32).toInt = 0 := (by decide); omega) _ rfl)
end
