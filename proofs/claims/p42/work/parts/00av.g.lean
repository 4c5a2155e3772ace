-- P 18n
section
-- THE CLASS WORKS A LAW OUT
/-- codes that can be, by how high the stack stands, never above B -/
def dpB (B : Nat) : Nat → tC → Option Nat
  | d, [] => some d
  | d, c :: cs => if c.1 < 2 then (if d < B ∧ ((c.1 = 0 ∧ c.2 ≤ 999) ∨ (c.1 = 1 ∧ c.2 ≤ 4)) then dpB B (d + 1) cs else none) else (if 2 ≤ d ∧ c.1 ≤ 7 then dpB B (d - 1) cs else none)
theorem dpB_app (B : Nat) : ∀ (cs ds : tC) (d e : Nat), dpB B d cs = some e → dpB B d (cs ++ ds) = dpB B e ds
  | [], ds, d, e, h => by
    cases h
    rfl
  | c :: cs, ds, d, e, h => by
    simp only [dpB, List.cons_append] at h ⊢
    split at h
    · rename_i h1
      rw [if_pos h1]
      split at h
      · rename_i h2
        rw [if_pos h2]
        exact dpB_app B cs ds _ _ h
      · cases h
    · rename_i h1
      rw [if_neg h1]
      split at h
      · rename_i h2
        rw [if_pos h2]
        exact dpB_app B cs ds _ _ h
      · cases h
theorem spNum_hi {tx : tX} {lo hi : Int} {p v q : Nat} (h : spNum tx lo hi p = .inr (v, q)) : (v : Int) ≤ hi := by
  unfold spNum at h
  split at h
  · split at h
    · rename_i h2
      cases h
      rw [Bool.and_eq_true] at h2
      exact of_decide_eq_true h2.2
    · cases h
  · cases h
def rq (md o : Nat) : Nat := 3 * (6 - o) + (if md = 2 then 1 else if md = 1 ∨ 4 ≤ md then 2 else 3)
theorem spL_dpB {tx : tX} : ∀ (f md o p q : Nat) (cs : tC), o ≤ 6 → spL tx f md o p = .inr (cs, q) → ∀ d B, d + rq md o ≤ B → (md < 3 → dpB B d cs = some (d + 1)) ∧ (3 ≤ md → dpB B (d + 1) cs = some (d + 1)) := by
  intro f
  induction f with
  | zero => intro md o p q cs _ h; cases h
  | succ f ih =>
    have app : ∀ (m1 m2 o p q R : Nat) (cs : tC), o ≤ 6 → m1 < 3 → 3 ≤ m2 → rq m1 o ≤ R → rq m2 o ≤ R → spApp (spL tx f m1 o p) (fun q => spL tx f m2 o q) = .inr (cs, q) → ∀ d B, d + R ≤ B → dpB B d cs = some (d + 1) := by
      intro m1 m2 o p q R cs ho h1 h2 r1 r2 h d B hB
      obtain ⟨c1, q1, e1, h⟩ := spBind_ok h
      obtain ⟨c2, q2, e2, h⟩ := spBind_ok h
      cases h
      rw [dpB_app _ _ _ _ _ ((ih _ _ _ _ _ ho e1 d B (by omega)).1 h1)]
      exact (ih _ _ _ _ _ ho e2 d B (by omega)).2 h2
    have op : ∀ (c m1 m2 o p q R : Nat) (cs : tC), o ≤ 6 → 2 ≤ c → c ≤ 7 → m1 < 3 → 3 ≤ m2 → rq m1 o + 1 ≤ R → rq m2 o ≤ R → spOp c (spL tx f m1 o p) (fun q => spL tx f m2 o q) = .inr (cs, q) → ∀ d B, d + R ≤ B → dpB B (d + 1) cs = some (d + 1) := by
      intro c m1 m2 o p q R cs ho hc hc7 h1 h2 r1 r2 h d B hB
      obtain ⟨c1, q1, e1, h⟩ := spBind_ok h
      obtain ⟨c2, q2, e2, h⟩ := spBind_ok h
      cases h
      rw [dpB_app _ _ _ _ _ ((ih _ _ _ _ _ ho e1 (d + 1) B (by omega)).1 h1)]
      simp only [dpB]
      rw [if_neg (by omega), if_pos (by omega)]
      exact (ih _ _ _ _ _ ho e2 d B (by omega)).2 h2
    have lp : ∀ (c1 c2 : Int) (k1 k2 m1 m2 o a q R : Nat) (cs : tC), o ≤ 6 → 2 ≤ k1 → k1 ≤ 7 → 2 ≤ k2 → k2 ≤ 7 → m1 < 3 → 3 ≤ m2 → rq m1 o + 1 ≤ R → rq m2 o ≤ R → spLp tx c1 c2 k1 k2 a (fun q => spL tx f m1 o q) (fun q => spL tx f m2 o q) = .inr (cs, q) → ∀ d B, d + R ≤ B → dpB B (d + 1) cs = some (d + 1) := by
      intro c1 c2 k1 k2 m1 m2 o a q R cs ho hk1 hk1' hk2 hk2' h1 h2 r1 r2 h d B hB
      unfold spLp at h
      split at h
      · exact op _ _ _ _ _ _ _ _ ho hk1 hk1' h1 h2 r1 r2 h d B hB
      · split at h
        · exact op _ _ _ _ _ _ _ _ ho hk2 hk2' h1 h2 r1 r2 h d B hB
        · cases h
          rfl
    have one : ∀ (o a q : Nat) (cs : tC), o ≤ 6 → spOne tx (fun q => spL tx f 0 (o + 1) q) o a = .inr (cs, q) → ∀ d B, d + (3 * (6 - o) + 1) ≤ B → dpB B d cs = some (d + 1) := by
      intro o a q cs ho h d B hB
      have hr : o < 6 → rq 0 (o + 1) ≤ 3 * (6 - o) := fun h6 => by
        unfold rq
        rw [if_neg (by omega), if_neg (by omega)]
        omega
      have two : ∀ c q0, o < 6 → 2 ≤ c → c ≤ 7 → spTwo tx (fun q => spL tx f 0 (o + 1) q) c q0 = .inr (cs, q) → dpB B d cs = some (d + 1) := by
        intro c q0 h6 hc hc7 h
        have hr := hr h6
        obtain ⟨u1, q1, e1, h⟩ := spBind_ok h
        obtain ⟨c2, q2, e2, h⟩ := spBind_ok h
        obtain ⟨u3, q3, e3, h⟩ := spBind_ok h
        obtain ⟨c4, q4, e4, h⟩ := spBind_ok h
        obtain ⟨u5, q5, e5, h⟩ := spBind_ok h
        cases h
        rw [List.append_assoc, dpB_app _ _ _ _ _ ((ih _ _ _ _ _ (by omega) e2 d B (by omega)).1 (by omega)), dpB_app _ _ _ _ _ ((ih _ _ _ _ _ (by omega) e4 (d + 1) B (by omega)).1 (by omega))]
        simp only [dpB]
        rw [if_neg (by omega), if_pos (by omega)]
        rfl
      unfold spOne at h
      split at h
      · split at h
        · cases h
        · exact two 6 _ (by omega) (by omega) (by omega) h
      · split at h
        · split at h
          · cases h
          · exact two 7 _ (by omega) (by omega) (by omega) h
        · split at h
          · split at h
            · cases h
            · have hr := hr (by omega)
              obtain ⟨c1, q1, e1, h⟩ := spBind_ok h
              obtain ⟨u2, q2, e2, h⟩ := spBind_ok h
              cases h
              exact (ih _ _ _ _ _ (by omega) e1 d B (by omega)).1 (by omega)
          · split at h
            · rename_i k hk
              cases h
              have : k ≤ 4 := by
                unfold lwK at hk
                repeat' split at hk
                all_goals (cases hk; try omega)
              show (if (1 : Nat) < 2 then (if d < B ∧ (((1 : Nat) = 0 ∧ k ≤ 999) ∨ ((1 : Nat) = 1 ∧ k ≤ 4)) then dpB B (d + 1) [] else none) else _) = _
              rw [if_pos (by decide), if_pos ⟨by omega, Or.inr ⟨rfl, this⟩⟩]
              rfl
            · obtain ⟨v1, q1, e1, h⟩ := spBind_ok h
              cases h
              have h9 := spNum_hi e1
              show (if (0 : Nat) < 2 then (if d < B ∧ (((0 : Nat) = 0 ∧ v1 ≤ 999) ∨ ((0 : Nat) = 1 ∧ v1 ≤ 4)) then dpB B (d + 1) [] else none) else _) = _
              rw [if_pos (by decide), if_pos ⟨by omega, Or.inl ⟨rfl, by omega⟩⟩]
              rfl
    intro md o p q cs ho h d B hB
    unfold rq at hB
    match md with
    | 0 => exact ⟨fun _ => app 1 3 o p q (3 * (6 - o) + 3) cs ho (by omega) (by omega) (by unfold rq; simp) (by unfold rq; simp) h d B (by simpa using hB), fun h => by omega⟩
    | 1 => exact ⟨fun _ => app 2 4 o p q (3 * (6 - o) + 2) cs ho (by omega) (by omega) (by unfold rq; simp) (by unfold rq; simp) h d B (by simpa using hB), fun h => by omega⟩
    | 2 => exact ⟨fun _ => one o (sk tx p) q cs ho h d B (by simpa using hB), fun h => by omega⟩
    | 3 => exact ⟨fun h => by omega, fun _ => lp 43 45 2 3 1 3 o (sk tx p) q (3 * (6 - o) + 3) cs ho (by omega) (by omega) (by omega) (by omega) (by omega) (by omega) (by unfold rq; simp) (by unfold rq; simp) h d B (by simpa using hB)⟩
    | md + 4 => exact ⟨fun h => by omega, fun _ => lp 42 47 4 5 2 4 o (sk tx p) q (3 * (6 - o) + 2) cs ho (by omega) (by omega) (by omega) (by omega) (by omega) (by omega) (by unfold rq; simp) (by unfold rq; simp) h d B (by rw [if_neg (by omega), if_pos (by omega)] at hB; exact hB)⟩
theorem spLaw_dpB {tx : tX} {n : Nat} {cs : tC} (h : spLaw tx n = .inr cs) : dpB 23 0 cs = some 1 := by
  unfold spLaw at h
  split at h
  · cases h
  · rename_i cs9 q9 e
    split at h
    · cases h
    · cases h
      exact (spL_dpB 700 0 0 _ _ _ (by decide) e 0 23 (by decide)).1 (by decide)
theorem div_m1 (u : Int32) : u / (-1) = -u := by
  apply i32_ext
  have e : (-1 : Int32).toInt = -1 := by decide
  rw [Int32.toInt_div, e, Int32.toInt_neg, Int.tdiv_neg, Int.tdiv_one]
def knF (a b c d e : Int32) (j : Nat) : Int32 := [a, b, c, d, e].getD j 0
theorem tsw_x {x : Int32} (h : 0 ≤ x.toInt) : fmTsw 82 91 (-5) (-1) #[79, 67, 56, 45, 34] x = (173 : Int) := by
  unfold fmTsw
  rw [if_pos (by omega)]
  rfl
set_option maxRecDepth 20000 in
theorem jo_2 {M : fmM} {Q : fmR → fmM → Prop} {u v : Int32} (hq : Q (.inl (some (.int (u + v)))) M) : pvGood Tx 0 qX1_joined [.int (-8), .int u, .int v] M Q := by
  refine pvGood_of (Nat.le_of_ble_eq_true rfl) ?_
  show pvEv Tx 0 qX1_joined 0 [some (.int (-8)), some (.int u), some (.int v)] [] M Q
  refine pv_iloadn (pc := 0) (n := 0) 0 rfl rfl (fm_dec dtX1_joined 0 rfl) ?_
  refine pv_table (pc := 1) 58 (by decide) rfl (fm_dec dtX1_joined 1 rfl) ?_
  refine pv_iloadn (pc := 58) (n := 1) 1 rfl rfl (fm_dec dtX1_joined 16 rfl) ?_
  refine pv_iloadn (pc := 59) (n := 2) 2 rfl rfl (fm_dec dtX1_joined 17 rfl) ?_
  refine pv_iadd (pc := 60) (fm_dec dtX1_joined 18 rfl) ?_
  exact pv_ireturn (pc := 61) rfl (fm_dec dtX1_joined 19 rfl) hq
set_option maxRecDepth 20000 in
theorem jo_3 {M : fmM} {Q : fmR → fmM → Prop} {u v : Int32} (hq : Q (.inl (some (.int (u - v)))) M) : pvGood Tx 0 qX1_joined [.int (-9), .int u, .int v] M Q := by
  refine pvGood_of (Nat.le_of_ble_eq_true rfl) ?_
  show pvEv Tx 0 qX1_joined 0 [some (.int (-9)), some (.int u), some (.int v)] [] M Q
  refine pv_iloadn (pc := 0) (n := 0) 0 rfl rfl (fm_dec dtX1_joined 0 rfl) ?_
  refine pv_table (pc := 1) 62 (by decide) rfl (fm_dec dtX1_joined 1 rfl) ?_
  refine pv_iloadn (pc := 62) (n := 1) 1 rfl rfl (fm_dec dtX1_joined 20 rfl) ?_
  refine pv_iloadn (pc := 63) (n := 2) 2 rfl rfl (fm_dec dtX1_joined 21 rfl) ?_
  refine pv_isub (pc := 64) (fm_dec dtX1_joined 22 rfl) ?_
  exact pv_ireturn (pc := 65) rfl (fm_dec dtX1_joined 23 rfl) hq
set_option maxRecDepth 20000 in
theorem jo_4 {M : fmM} {Q : fmR → fmM → Prop} {u v : Int32} (hq : Q (.inl (some (.int (u * v)))) M) : pvGood Tx 0 qX1_joined [.int (-10), .int u, .int v] M Q := by
  refine pvGood_of (Nat.le_of_ble_eq_true rfl) ?_
  show pvEv Tx 0 qX1_joined 0 [some (.int (-10)), some (.int u), some (.int v)] [] M Q
  refine pv_iloadn (pc := 0) (n := 0) 0 rfl rfl (fm_dec dtX1_joined 0 rfl) ?_
  refine pv_table (pc := 1) 66 (by decide) rfl (fm_dec dtX1_joined 1 rfl) ?_
  refine pv_iloadn (pc := 66) (n := 1) 1 rfl rfl (fm_dec dtX1_joined 24 rfl) ?_
  refine pv_iloadn (pc := 67) (n := 2) 2 rfl rfl (fm_dec dtX1_joined 25 rfl) ?_
  refine pv_imul (pc := 68) (fm_dec dtX1_joined 26 rfl) ?_
  exact pv_ireturn (pc := 69) rfl (fm_dec dtX1_joined 27 rfl) hq
set_option maxRecDepth 20000 in
theorem jo_5 {M : fmM} {Q : fmR → fmM → Prop} {u v : Int32} (hq : Q (.inl (some (.int ((if v = 0 then 0 else if v = -1 then -u else u / v))))) M) : pvGood Tx 0 qX1_joined [.int (-11), .int u, .int v] M Q := by
  refine pvGood_of (Nat.le_of_ble_eq_true rfl) ?_
  show pvEv Tx 0 qX1_joined 0 [some (.int (-11)), some (.int u), some (.int v)] [] M Q
  refine pv_iloadn (pc := 0) (n := 0) 0 rfl rfl (fm_dec dtX1_joined 0 rfl) ?_
  refine pv_table (pc := 1) 70 (by decide) rfl (fm_dec dtX1_joined 1 rfl) ?_
  refine pv_iloadn (pc := 70) (n := 2) 2 rfl rfl (fm_dec dtX1_joined 28 rfl) ?_
  refine pv_if_ne (pc := 71) 78 (by decide) (fm_dec dtX1_joined 29 rfl) (fun hc71 => ?_) (fun hc71 => ?_)
  · refine pv_iloadn (pc := 78) (n := 1) 1 rfl rfl (fm_dec dtX1_joined 32 rfl) ?_
    refine pv_iloadn (pc := 79) (n := 2) 2 rfl rfl (fm_dec dtX1_joined 33 rfl) ?_
    refine pv_idiv (pc := 80) (fun h9 => hc71 h9) (fm_dec dtX1_joined 34 rfl) ?_
    exact pv_ireturn (pc := 81) rfl (fm_dec dtX1_joined 35 rfl) (by first | (rw [if_pos hc71] at hq; exact hq) | (rw [if_neg hc71] at hq; by_cases e9 : v = -1; (rw [if_pos e9] at hq; rw [e9, div_m1]; exact hq); (rw [if_neg e9] at hq; exact hq)))
  · refine pv_iconst (pc := 74) (v := 0) (by decide) (fm_dec dtX1_joined 30 rfl) ?_
    refine pv_goto (pc := 75) 81 (by decide) (fm_dec dtX1_joined 31 rfl) ?_
    exact pv_ireturn (pc := 81) rfl (fm_dec dtX1_joined 35 rfl) (by first | (rw [if_pos hc71] at hq; exact hq) | (rw [if_neg hc71] at hq; by_cases e9 : v = -1; (rw [if_pos e9] at hq; rw [e9, div_m1]; exact hq); (rw [if_neg e9] at hq; exact hq)))
set_option maxRecDepth 20000 in
theorem jo_6 {M : fmM} {Q : fmR → fmM → Prop} {u v : Int32} (hq : Q (.inl (some (.int (pvMx false u v)))) M) : pvGood Tx 0 qX1_joined [.int (-6), .int u, .int v] M Q := by
  refine pvGood_of (Nat.le_of_ble_eq_true rfl) ?_
  show pvEv Tx 0 qX1_joined 0 [some (.int (-6)), some (.int u), some (.int v)] [] M Q
  refine pv_iloadn (pc := 0) (n := 0) 0 rfl rfl (fm_dec dtX1_joined 0 rfl) ?_
  refine pv_table (pc := 1) 36 (by decide) rfl (fm_dec dtX1_joined 1 rfl) ?_
  refine pv_iloadn (pc := 36) (n := 1) 1 rfl rfl (fm_dec dtX1_joined 2 rfl) ?_
  refine pv_iloadn (pc := 37) (n := 2) 2 rfl rfl (fm_dec dtX1_joined 3 rfl) ?_
  refine pv_icmp_ge (pc := 38) 45 (by decide) (fm_dec dtX1_joined 4 rfl) (fun hc38 => ?_) (fun hc38 => ?_)
  · refine pv_iloadn (pc := 45) (n := 2) 2 rfl rfl (fm_dec dtX1_joined 7 rfl) ?_
    exact pv_ireturn (pc := 46) rfl (fm_dec dtX1_joined 8 rfl) (by have e9 : pvMx false u v = (if u.toInt ≤ v.toInt then u else v) := rfl; first | (rw [e9, if_pos (by rw [sc_le] at hc38; omega)] at hq; exact hq) | (rw [e9] at hq; by_cases h8 : u.toInt ≤ v.toInt; (have h7 : u = v := i32_ext (by rw [sc_le] at hc38; omega); rw [if_pos h8, h7] at hq; exact hq); (rw [if_neg h8] at hq; exact hq)))
  · refine pv_iloadn (pc := 41) (n := 1) 1 rfl rfl (fm_dec dtX1_joined 5 rfl) ?_
    refine pv_goto (pc := 42) 46 (by decide) (fm_dec dtX1_joined 6 rfl) ?_
    exact pv_ireturn (pc := 46) rfl (fm_dec dtX1_joined 8 rfl) (by have e9 : pvMx false u v = (if u.toInt ≤ v.toInt then u else v) := rfl; first | (rw [e9, if_pos (by rw [sc_le] at hc38; omega)] at hq; exact hq) | (rw [e9] at hq; by_cases h8 : u.toInt ≤ v.toInt; (have h7 : u = v := i32_ext (by rw [sc_le] at hc38; omega); rw [if_pos h8, h7] at hq; exact hq); (rw [if_neg h8] at hq; exact hq)))
set_option maxRecDepth 20000 in
theorem jo_7 {M : fmM} {Q : fmR → fmM → Prop} {u v : Int32} (hq : Q (.inl (some (.int (pvMx true u v)))) M) : pvGood Tx 0 qX1_joined [.int (-7), .int u, .int v] M Q := by
  refine pvGood_of (Nat.le_of_ble_eq_true rfl) ?_
  show pvEv Tx 0 qX1_joined 0 [some (.int (-7)), some (.int u), some (.int v)] [] M Q
  refine pv_iloadn (pc := 0) (n := 0) 0 rfl rfl (fm_dec dtX1_joined 0 rfl) ?_
  refine pv_table (pc := 1) 47 (by decide) rfl (fm_dec dtX1_joined 1 rfl) ?_
  refine pv_iloadn (pc := 47) (n := 1) 1 rfl rfl (fm_dec dtX1_joined 9 rfl) ?_
  refine pv_iloadn (pc := 48) (n := 2) 2 rfl rfl (fm_dec dtX1_joined 10 rfl) ?_
  refine pv_icmp_le (pc := 49) 56 (by decide) (fm_dec dtX1_joined 11 rfl) (fun hc49 => ?_) (fun hc49 => ?_)
  · refine pv_iloadn (pc := 56) (n := 2) 2 rfl rfl (fm_dec dtX1_joined 14 rfl) ?_
    exact pv_ireturn (pc := 57) rfl (fm_dec dtX1_joined 15 rfl) (by have e9 : pvMx true u v = (if u.toInt ≤ v.toInt then v else u) := rfl; first | (rw [e9, if_neg (by rw [sc_le] at hc49; omega)] at hq; exact hq) | (rw [e9, if_pos (by rw [sc_le] at hc49; omega)] at hq; exact hq))
  · refine pv_iloadn (pc := 52) (n := 1) 1 rfl rfl (fm_dec dtX1_joined 12 rfl) ?_
    refine pv_goto (pc := 53) 57 (by decide) (fm_dec dtX1_joined 13 rfl) ?_
    exact pv_ireturn (pc := 57) rfl (fm_dec dtX1_joined 15 rfl) (by have e9 : pvMx true u v = (if u.toInt ≤ v.toInt then v else u) := rfl; first | (rw [e9, if_neg (by rw [sc_le] at hc49; omega)] at hq; exact hq) | (rw [e9, if_pos (by rw [sc_le] at hc49; omega)] at hq; exact hq))
theorem c_joined {M : fmM} {Q : fmR → fmM → Prop} {x u v : Int32} {c : Nat} (h2 : 2 ≤ c) (h7 : c ≤ 7) (hx : x.toInt = cdV (c, 0)) (hq : Q (.inl (some (.int (opV c u v)))) M) : pvGood Tx 0 qX1_joined [.int x, .int u, .int v] M Q := by
  have hc : c = 2 ∨ c = 3 ∨ c = 4 ∨ c = 5 ∨ c = 6 ∨ c = 7 := by omega
  rcases hc with rfl | rfl | rfl | rfl | rfl | rfl
  · have e : x = (-8) := i32_ext (hx.trans (by decide))
    subst e
    exact jo_2 hq
  · have e : x = (-9) := i32_ext (hx.trans (by decide))
    subst e
    exact jo_3 hq
  · have e : x = (-10) := i32_ext (hx.trans (by decide))
    subst e
    exact jo_4 hq
  · have e : x = (-11) := i32_ext (hx.trans (by decide))
    subst e
    exact jo_5 hq
  · have e : x = (-6) := i32_ext (hx.trans (by decide))
    subst e
    exact jo_6 hq
  · have e : x = (-7) := i32_ext (hx.trans (by decide))
    subst e
    exact jo_7 hq
set_option maxRecDepth 20000 in
theorem xo_loop {Q : fmR → fmM → Prop} {cs : tC} {M0 : fmM} {a1 a2 a3 a4 a5 : Int32} (hsz : (M0.1 23 3).toInt = (cs.length : Int)) (h150 : cs.length ≤ 150) (hcd : ∀ i c, cs[i]? = some c → (M0.1 24 i).toInt = cdV c) : ∀ (m : Nat) (M : fmM) (i d : Nat) (tp ii : Int32) (v8 : Option Value), cs.length - i = m → i ≤ cs.length → ii.toInt = (i : Int) → tp.toInt = (d : Int) → d ≤ 23 → dpB 23 d (cs.drop i) = some 1 → (∀ k j, k ≠ 26 → M.1 k j = M0.1 k j) → M.2 = M0.2 → (∀ (M' : fmM) (tp' ii' : Int32) (v8' : Option Value), (∀ k j, k ≠ 26 → M'.1 k j = M0.1 k j) → M'.2 = M0.2 → M'.1 26 0 = lwR (knF a1 a2 a3 a4 a5) (cs.drop i) d (M.1 26) → pvEv Tx 1 qX1_outcome 191 [some (.ref 23), some (.int a1), some (.int a2), some (.int a3), some (.int a4), some (.int a5), some (.int tp'), some (.int ii'), v8'] [] M' Q) → pvEv Tx 1 qX1_outcome 6 [some (.ref 23), some (.int a1), some (.int a2), some (.int a3), some (.int a4), some (.int a5), some (.int tp), some (.int ii), v8] [] M Q := by
  intro m
  induction m using Nat.strongRecOn with
  | _ m ih =>
    intro M i d tp ii v8 hm hile hii htp hdle hdB hfr hfr2 hq
    refine pv_iload (pc := 6) (i := 7) rfl (fm_dec dtX1_outcome 4 rfl) ?_
    refine pv_aloadn (pc := 8) (n := 0) 0 rfl rfl (fm_dec dtX1_outcome 5 rfl) ?_
    refine pv_getI (k := 23) (j := 3) (ci := 1) (pc := 9) pfl_X1_24 (by decide) rfl (by decide) (fm_dec dtX1_outcome 6 rfl) ?_
    refine pv_icmp_ge (pc := 12) 191 (by decide) (fm_dec dtX1_outcome 7 rfl) (fun hc12 => ?_) (fun hc12 => ?_)
    · have hie : i = cs.length := (by rw [sc_le] at hc12; have h9 := hfr 23 3 (by decide); rw [h9] at hc12; omega)
      refine hq M tp ii _ hfr hfr2 ?_
      rw [List.drop_eq_nil_of_le (by omega)]
      rfl
    · refine pv_iload (pc := 15) (i := 6) rfl (fm_dec dtX1_outcome 8 rfl) ?_
      refine pv_bipush (pc := 17) (v := 24) (by decide) (fm_dec dtX1_outcome 9 rfl) ?_
      refine pv_icmp_ge (pc := 19) 191 (by decide) (fm_dec dtX1_outcome 10 rfl) (fun hc19 => by exfalso; rw [sc_le] at hc19; have h9 : (24 : Int32).toInt = 24 := (by decide); omega) (fun _ => ?_)
      refine pv_aloadn (pc := 22) (n := 0) 0 rfl rfl (fm_dec dtX1_outcome 11 rfl) ?_
      refine pv_getR (k := 23) (j := 0) (ci := 1) (pc := 23) 24 rfl (by decide) pfl_X1_9 (by decide) rfl (by decide) (fm_dec dtX1_outcome 12 rfl) ?_
      refine pv_iload (pc := 26) (i := 7) rfl (fm_dec dtX1_outcome 13 rfl) ?_
      refine pv_iald (k := 24) (n := 150) (pc := 28) (by decide) rfl rfl (ix_in hii (by rw [sc_le] at hc12; have h9 := hfr 23 3 (by decide); rw [h9] at hc12; omega)) (fm_dec dtX1_outcome 14 rfl) ?_
      refine pv_istore (pc := 29) (i := 8) (by decide) rfl (fm_dec dtX1_outcome 15 rfl) ?_
      dsimp only [List.set_cons_zero, List.set_cons_succ]
      have hil : i < cs.length := (by rw [sc_le] at hc12; have h9 := hfr 23 3 (by decide); rw [h9] at hc12; omega)
      have hi9 : ii.toNatClampNeg = i := i32_cl hii
      obtain ⟨c, hci⟩ : ∃ c, cs[i]? = some c := ⟨cs[i], List.getElem?_eq_getElem hil⟩
      have hdr : cs.drop i = c :: cs.drop (i + 1) := (by rw [List.drop_eq_getElem_cons hil]; congr 1; exact (List.getElem?_eq_some_iff.mp hci).2)
      have hx : (M.1 24 ii.toNatClampNeg).toInt = cdV c := (by rw [hi9, hfr 24 i (by decide)]; exact hcd i c hci)
      have hdB0 := hdB
      rw [hdr] at hdB
      simp only [dpB] at hdB
      by_cases hc2 : c.1 < 2
      · rw [if_pos hc2] at hdB
        split at hdB
        · rename_i hg
          refine pv_iload (pc := 31) (i := 8) rfl (fm_dec dtX1_outcome 16 rfl) ?_
          refine pv_bipush (pc := 33) (v := (-6)) (by decide) (fm_dec dtX1_outcome 17 rfl) ?_
          refine pv_icmp_gt (pc := 35) 80 (by decide) (fm_dec dtX1_outcome 18 rfl) (fun _ => ?_) (fun hc35 => by exfalso; rw [sc_lt] at hc35; rw [hx] at hc35; have h9 : (-6 : Int32).toInt = -6 := (by decide); apply hc35; unfold cdV; split; omega; split; omega; omega)
          have hc01 : c.1 = 0 ∨ c.1 = 1 := (by omega)
          rcases hc01 with hc0 | hc1
          · have hx0 : 0 ≤ (M.1 24 ii.toNatClampNeg).toInt := (by rw [hx]; unfold cdV; rw [if_pos hc0]; omega)
            have ev : Int32.ofInt (c.2 : Int) = M.1 24 ii.toNatClampNeg := i32_ext (by rw [hx]; unfold cdV; rw [if_pos hc0]; exact Int32.toInt_ofInt_of_le (by omega) (by omega))
            refine pv_iload (pc := 80) (i := 8) rfl (fm_dec dtX1_outcome 42 rfl) ?_
            refine pv_table (pc := 82) 173 (by decide) (tsw_x hx0) (fm_dec dtX1_outcome 43 rfl) ?_
            refine pv_aloadn (pc := 173) (n := 0) 0 rfl rfl (fm_dec dtX1_outcome 74 rfl) ?_
            refine pv_getR (k := 23) (j := 2) (ci := 1) (pc := 174) 26 rfl (by decide) pfl_X1_18 (by decide) rfl (by decide) (fm_dec dtX1_outcome 75 rfl) ?_
            refine pv_iload (pc := 177) (i := 6) rfl (fm_dec dtX1_outcome 76 rfl) ?_
            refine pv_iload (pc := 179) (i := 8) rfl (fm_dec dtX1_outcome 77 rfl) ?_
            refine pv_iast (k := 26) (n := 24) (pc := 181) (by decide) rfl rfl (ix_in htp (by omega)) (fm_dec dtX1_outcome 78 rfl) ?_
            refine pv_iincc (pc := 182) 6 1 (by decide) rfl (by decide) rfl (fm_dec dtX1_outcome 79 rfl) ?_
            dsimp only [List.set_cons_zero, List.set_cons_succ]
            refine pv_iincc (pc := 185) 7 1 (by decide) rfl (by decide) rfl (fm_dec dtX1_outcome 80 rfl) ?_
            dsimp only [List.set_cons_zero, List.set_cons_succ]
            refine pv_goto (pc := 188) 6 (by decide) (fm_dec dtX1_outcome 81 rfl) ?_
            rw [i32_cl htp]
            have eL : lwR (knF a1 a2 a3 a4 a5) (cs.drop i) d (M.1 26) = lwR (knF a1 a2 a3 a4 a5) (cs.drop (i + 1)) (d + 1) ((fmI M 26 d (M.1 24 ii.toNatClampNeg)).1 26) := (by rw [hdr, fmI_row]; simp only [lwR]; rw [if_pos hc2, if_pos hc0, ev])
            exact ih (cs.length - (i + 1)) (by omega) _ (i + 1) (d + 1) _ _ _ rfl hil (i32_p1 hii (by omega)) (i32_p1 htp (by omega)) (by omega) hdB (fun k j h => (by rw [fmI_k _ _ h]; exact hfr k j h)) hfr2 (fun M9 tp9 ii9 v9 g1 g2 g3 => hq M9 tp9 ii9 v9 g1 g2 (g3.trans eL.symm))
          · have hc5 : c.2 = 0 ∨ c.2 = 1 ∨ c.2 = 2 ∨ c.2 = 3 ∨ c.2 = 4 := (by omega)
            rcases hc5 with e5 | e5 | e5 | e5 | e5
            · have ex : M.1 24 ii.toNatClampNeg = (-1) := i32_ext (by rw [hx]; unfold cdV; rw [if_neg (by omega), if_pos hc1, e5]; decide)
              rw [ex]
              refine pv_iload (pc := 80) (i := 8) rfl (fm_dec dtX1_outcome 42 rfl) ?_
              refine pv_table (pc := 82) 116 (by decide) rfl (fm_dec dtX1_outcome 43 rfl) ?_
              refine pv_aloadn (pc := 116) (n := 0) 0 rfl rfl (fm_dec dtX1_outcome 44 rfl) ?_
              refine pv_getR (k := 23) (j := 2) (ci := 1) (pc := 117) 26 rfl (by decide) pfl_X1_18 (by decide) rfl (by decide) (fm_dec dtX1_outcome 45 rfl) ?_
              refine pv_iload (pc := 120) (i := 6) rfl (fm_dec dtX1_outcome 46 rfl) ?_
              refine pv_iloadn (pc := 122) (n := 1) 1 rfl rfl (fm_dec dtX1_outcome 47 rfl) ?_
              refine pv_iast (k := 26) (n := 24) (pc := 123) (by decide) rfl rfl (ix_in htp (by omega)) (fm_dec dtX1_outcome 48 rfl) ?_
              refine pv_goto (pc := 124) 182 (by decide) (fm_dec dtX1_outcome 49 rfl) ?_
              refine pv_iincc (pc := 182) 6 1 (by decide) rfl (by decide) rfl (fm_dec dtX1_outcome 79 rfl) ?_
              dsimp only [List.set_cons_zero, List.set_cons_succ]
              refine pv_iincc (pc := 185) 7 1 (by decide) rfl (by decide) rfl (fm_dec dtX1_outcome 80 rfl) ?_
              dsimp only [List.set_cons_zero, List.set_cons_succ]
              refine pv_goto (pc := 188) 6 (by decide) (fm_dec dtX1_outcome 81 rfl) ?_
              rw [i32_cl htp]
              have eL : lwR (knF a1 a2 a3 a4 a5) (cs.drop i) d (M.1 26) = lwR (knF a1 a2 a3 a4 a5) (cs.drop (i + 1)) (d + 1) ((fmI M 26 d a1).1 26) := (by rw [hdr, fmI_row]; simp only [lwR]; rw [if_pos hc2, if_neg (by omega), e5]; rfl)
              exact ih (cs.length - (i + 1)) (by omega) _ (i + 1) (d + 1) _ _ _ rfl hil (i32_p1 hii (by omega)) (i32_p1 htp (by omega)) (by omega) hdB (fun k j h => (by rw [fmI_k _ _ h]; exact hfr k j h)) hfr2 (fun M9 tp9 ii9 v9 g1 g2 g3 => hq M9 tp9 ii9 v9 g1 g2 (g3.trans eL.symm))
            · have ex : M.1 24 ii.toNatClampNeg = (-2) := i32_ext (by rw [hx]; unfold cdV; rw [if_neg (by omega), if_pos hc1, e5]; decide)
              rw [ex]
              refine pv_iload (pc := 80) (i := 8) rfl (fm_dec dtX1_outcome 42 rfl) ?_
              refine pv_table (pc := 82) 127 (by decide) rfl (fm_dec dtX1_outcome 43 rfl) ?_
              refine pv_aloadn (pc := 127) (n := 0) 0 rfl rfl (fm_dec dtX1_outcome 50 rfl) ?_
              refine pv_getR (k := 23) (j := 2) (ci := 1) (pc := 128) 26 rfl (by decide) pfl_X1_18 (by decide) rfl (by decide) (fm_dec dtX1_outcome 51 rfl) ?_
              refine pv_iload (pc := 131) (i := 6) rfl (fm_dec dtX1_outcome 52 rfl) ?_
              refine pv_iloadn (pc := 133) (n := 2) 2 rfl rfl (fm_dec dtX1_outcome 53 rfl) ?_
              refine pv_iast (k := 26) (n := 24) (pc := 134) (by decide) rfl rfl (ix_in htp (by omega)) (fm_dec dtX1_outcome 54 rfl) ?_
              refine pv_goto (pc := 135) 182 (by decide) (fm_dec dtX1_outcome 55 rfl) ?_
              refine pv_iincc (pc := 182) 6 1 (by decide) rfl (by decide) rfl (fm_dec dtX1_outcome 79 rfl) ?_
              dsimp only [List.set_cons_zero, List.set_cons_succ]
              refine pv_iincc (pc := 185) 7 1 (by decide) rfl (by decide) rfl (fm_dec dtX1_outcome 80 rfl) ?_
              dsimp only [List.set_cons_zero, List.set_cons_succ]
              refine pv_goto (pc := 188) 6 (by decide) (fm_dec dtX1_outcome 81 rfl) ?_
              rw [i32_cl htp]
              have eL : lwR (knF a1 a2 a3 a4 a5) (cs.drop i) d (M.1 26) = lwR (knF a1 a2 a3 a4 a5) (cs.drop (i + 1)) (d + 1) ((fmI M 26 d a2).1 26) := (by rw [hdr, fmI_row]; simp only [lwR]; rw [if_pos hc2, if_neg (by omega), e5]; rfl)
              exact ih (cs.length - (i + 1)) (by omega) _ (i + 1) (d + 1) _ _ _ rfl hil (i32_p1 hii (by omega)) (i32_p1 htp (by omega)) (by omega) hdB (fun k j h => (by rw [fmI_k _ _ h]; exact hfr k j h)) hfr2 (fun M9 tp9 ii9 v9 g1 g2 g3 => hq M9 tp9 ii9 v9 g1 g2 (g3.trans eL.symm))
            · have ex : M.1 24 ii.toNatClampNeg = (-3) := i32_ext (by rw [hx]; unfold cdV; rw [if_neg (by omega), if_pos hc1, e5]; decide)
              rw [ex]
              refine pv_iload (pc := 80) (i := 8) rfl (fm_dec dtX1_outcome 42 rfl) ?_
              refine pv_table (pc := 82) 138 (by decide) rfl (fm_dec dtX1_outcome 43 rfl) ?_
              refine pv_aloadn (pc := 138) (n := 0) 0 rfl rfl (fm_dec dtX1_outcome 56 rfl) ?_
              refine pv_getR (k := 23) (j := 2) (ci := 1) (pc := 139) 26 rfl (by decide) pfl_X1_18 (by decide) rfl (by decide) (fm_dec dtX1_outcome 57 rfl) ?_
              refine pv_iload (pc := 142) (i := 6) rfl (fm_dec dtX1_outcome 58 rfl) ?_
              refine pv_iloadn (pc := 144) (n := 3) 3 rfl rfl (fm_dec dtX1_outcome 59 rfl) ?_
              refine pv_iast (k := 26) (n := 24) (pc := 145) (by decide) rfl rfl (ix_in htp (by omega)) (fm_dec dtX1_outcome 60 rfl) ?_
              refine pv_goto (pc := 146) 182 (by decide) (fm_dec dtX1_outcome 61 rfl) ?_
              refine pv_iincc (pc := 182) 6 1 (by decide) rfl (by decide) rfl (fm_dec dtX1_outcome 79 rfl) ?_
              dsimp only [List.set_cons_zero, List.set_cons_succ]
              refine pv_iincc (pc := 185) 7 1 (by decide) rfl (by decide) rfl (fm_dec dtX1_outcome 80 rfl) ?_
              dsimp only [List.set_cons_zero, List.set_cons_succ]
              refine pv_goto (pc := 188) 6 (by decide) (fm_dec dtX1_outcome 81 rfl) ?_
              rw [i32_cl htp]
              have eL : lwR (knF a1 a2 a3 a4 a5) (cs.drop i) d (M.1 26) = lwR (knF a1 a2 a3 a4 a5) (cs.drop (i + 1)) (d + 1) ((fmI M 26 d a3).1 26) := (by rw [hdr, fmI_row]; simp only [lwR]; rw [if_pos hc2, if_neg (by omega), e5]; rfl)
              exact ih (cs.length - (i + 1)) (by omega) _ (i + 1) (d + 1) _ _ _ rfl hil (i32_p1 hii (by omega)) (i32_p1 htp (by omega)) (by omega) hdB (fun k j h => (by rw [fmI_k _ _ h]; exact hfr k j h)) hfr2 (fun M9 tp9 ii9 v9 g1 g2 g3 => hq M9 tp9 ii9 v9 g1 g2 (g3.trans eL.symm))
            · have ex : M.1 24 ii.toNatClampNeg = (-4) := i32_ext (by rw [hx]; unfold cdV; rw [if_neg (by omega), if_pos hc1, e5]; decide)
              rw [ex]
              refine pv_iload (pc := 80) (i := 8) rfl (fm_dec dtX1_outcome 42 rfl) ?_
              refine pv_table (pc := 82) 149 (by decide) rfl (fm_dec dtX1_outcome 43 rfl) ?_
              refine pv_aloadn (pc := 149) (n := 0) 0 rfl rfl (fm_dec dtX1_outcome 62 rfl) ?_
              refine pv_getR (k := 23) (j := 2) (ci := 1) (pc := 150) 26 rfl (by decide) pfl_X1_18 (by decide) rfl (by decide) (fm_dec dtX1_outcome 63 rfl) ?_
              refine pv_iload (pc := 153) (i := 6) rfl (fm_dec dtX1_outcome 64 rfl) ?_
              refine pv_iload (pc := 155) (i := 4) rfl (fm_dec dtX1_outcome 65 rfl) ?_
              refine pv_iast (k := 26) (n := 24) (pc := 157) (by decide) rfl rfl (ix_in htp (by omega)) (fm_dec dtX1_outcome 66 rfl) ?_
              refine pv_goto (pc := 158) 182 (by decide) (fm_dec dtX1_outcome 67 rfl) ?_
              refine pv_iincc (pc := 182) 6 1 (by decide) rfl (by decide) rfl (fm_dec dtX1_outcome 79 rfl) ?_
              dsimp only [List.set_cons_zero, List.set_cons_succ]
              refine pv_iincc (pc := 185) 7 1 (by decide) rfl (by decide) rfl (fm_dec dtX1_outcome 80 rfl) ?_
              dsimp only [List.set_cons_zero, List.set_cons_succ]
              refine pv_goto (pc := 188) 6 (by decide) (fm_dec dtX1_outcome 81 rfl) ?_
              rw [i32_cl htp]
              have eL : lwR (knF a1 a2 a3 a4 a5) (cs.drop i) d (M.1 26) = lwR (knF a1 a2 a3 a4 a5) (cs.drop (i + 1)) (d + 1) ((fmI M 26 d a4).1 26) := (by rw [hdr, fmI_row]; simp only [lwR]; rw [if_pos hc2, if_neg (by omega), e5]; rfl)
              exact ih (cs.length - (i + 1)) (by omega) _ (i + 1) (d + 1) _ _ _ rfl hil (i32_p1 hii (by omega)) (i32_p1 htp (by omega)) (by omega) hdB (fun k j h => (by rw [fmI_k _ _ h]; exact hfr k j h)) hfr2 (fun M9 tp9 ii9 v9 g1 g2 g3 => hq M9 tp9 ii9 v9 g1 g2 (g3.trans eL.symm))
            · have ex : M.1 24 ii.toNatClampNeg = (-5) := i32_ext (by rw [hx]; unfold cdV; rw [if_neg (by omega), if_pos hc1, e5]; decide)
              rw [ex]
              refine pv_iload (pc := 80) (i := 8) rfl (fm_dec dtX1_outcome 42 rfl) ?_
              refine pv_table (pc := 82) 161 (by decide) rfl (fm_dec dtX1_outcome 43 rfl) ?_
              refine pv_aloadn (pc := 161) (n := 0) 0 rfl rfl (fm_dec dtX1_outcome 68 rfl) ?_
              refine pv_getR (k := 23) (j := 2) (ci := 1) (pc := 162) 26 rfl (by decide) pfl_X1_18 (by decide) rfl (by decide) (fm_dec dtX1_outcome 69 rfl) ?_
              refine pv_iload (pc := 165) (i := 6) rfl (fm_dec dtX1_outcome 70 rfl) ?_
              refine pv_iload (pc := 167) (i := 5) rfl (fm_dec dtX1_outcome 71 rfl) ?_
              refine pv_iast (k := 26) (n := 24) (pc := 169) (by decide) rfl rfl (ix_in htp (by omega)) (fm_dec dtX1_outcome 72 rfl) ?_
              refine pv_goto (pc := 170) 182 (by decide) (fm_dec dtX1_outcome 73 rfl) ?_
              refine pv_iincc (pc := 182) 6 1 (by decide) rfl (by decide) rfl (fm_dec dtX1_outcome 79 rfl) ?_
              dsimp only [List.set_cons_zero, List.set_cons_succ]
              refine pv_iincc (pc := 185) 7 1 (by decide) rfl (by decide) rfl (fm_dec dtX1_outcome 80 rfl) ?_
              dsimp only [List.set_cons_zero, List.set_cons_succ]
              refine pv_goto (pc := 188) 6 (by decide) (fm_dec dtX1_outcome 81 rfl) ?_
              rw [i32_cl htp]
              have eL : lwR (knF a1 a2 a3 a4 a5) (cs.drop i) d (M.1 26) = lwR (knF a1 a2 a3 a4 a5) (cs.drop (i + 1)) (d + 1) ((fmI M 26 d a5).1 26) := (by rw [hdr, fmI_row]; simp only [lwR]; rw [if_pos hc2, if_neg (by omega), e5]; rfl)
              exact ih (cs.length - (i + 1)) (by omega) _ (i + 1) (d + 1) _ _ _ rfl hil (i32_p1 hii (by omega)) (i32_p1 htp (by omega)) (by omega) hdB (fun k j h => (by rw [fmI_k _ _ h]; exact hfr k j h)) hfr2 (fun M9 tp9 ii9 v9 g1 g2 g3 => hq M9 tp9 ii9 v9 g1 g2 (g3.trans eL.symm))
        · cases hdB
      · rw [if_neg hc2] at hdB
        split at hdB
        · rename_i hg
          have hx2 : (M.1 24 ii.toNatClampNeg).toInt = cdV (c.1, 0) := (by have e0 : ¬ c.1 = 0 := (by omega); have e1 : ¬ c.1 = 1 := (by omega); rw [hx]; unfold cdV; simp only [if_neg e0, if_neg e1])
          have hd1 : (tp + -1).toInt = ((d - 1 : Nat) : Int) := sub1 htp hg.1 (by omega)
          have hd2 : (tp + -1 - 1).toInt = ((d - 2 : Nat) : Int) := sub2 htp hg.1 (by omega)
          refine pv_iload (pc := 31) (i := 8) rfl (fm_dec dtX1_outcome 16 rfl) ?_
          refine pv_bipush (pc := 33) (v := (-6)) (by decide) (fm_dec dtX1_outcome 17 rfl) ?_
          refine pv_icmp_gt (pc := 35) 80 (by decide) (fm_dec dtX1_outcome 18 rfl) (fun hc35 => by exfalso; rw [sc_lt, hx2] at hc35; have h9 : (-6 : Int32).toInt = -6 := (by decide); revert hc35; unfold cdV; rw [if_neg (by omega), if_neg (by omega)]; split <;> omega) (fun _ => ?_)
          refine pv_iload (pc := 38) (i := 6) rfl (fm_dec dtX1_outcome 19 rfl) ?_
          refine pv_iconst (pc := 40) (v := 2) (by decide) (fm_dec dtX1_outcome 20 rfl) ?_
          refine pv_icmp_lt (pc := 41) 80 (by decide) (fm_dec dtX1_outcome 21 rfl) (fun hc41 => by exfalso; rw [sc_lt] at hc41; have h9 : (2 : Int32).toInt = 2 := (by decide); omega) (fun _ => ?_)
          refine pv_iincc (pc := 44) 6 (-1) (by decide) rfl (by decide) rfl (fm_dec dtX1_outcome 22 rfl) ?_
          dsimp only [List.set_cons_zero, List.set_cons_succ]
          refine pv_aloadn (pc := 47) (n := 0) 0 rfl rfl (fm_dec dtX1_outcome 23 rfl) ?_
          refine pv_getR (k := 23) (j := 2) (ci := 1) (pc := 48) 26 rfl (by decide) pfl_X1_18 (by decide) rfl (by decide) (fm_dec dtX1_outcome 24 rfl) ?_
          refine pv_iload (pc := 51) (i := 6) rfl (fm_dec dtX1_outcome 25 rfl) ?_
          refine pv_iconst (pc := 53) (v := 1) (by decide) (fm_dec dtX1_outcome 26 rfl) ?_
          refine pv_isub (pc := 54) (fm_dec dtX1_outcome 27 rfl) ?_
          refine pv_iload (pc := 55) (i := 8) rfl (fm_dec dtX1_outcome 28 rfl) ?_
          refine pv_aloadn (pc := 57) (n := 0) 0 rfl rfl (fm_dec dtX1_outcome 29 rfl) ?_
          refine pv_getR (k := 23) (j := 2) (ci := 1) (pc := 58) 26 rfl (by decide) pfl_X1_18 (by decide) rfl (by decide) (fm_dec dtX1_outcome 30 rfl) ?_
          refine pv_iload (pc := 61) (i := 6) rfl (fm_dec dtX1_outcome 31 rfl) ?_
          refine pv_iconst (pc := 63) (v := 1) (by decide) (fm_dec dtX1_outcome 32 rfl) ?_
          refine pv_isub (pc := 64) (fm_dec dtX1_outcome 33 rfl) ?_
          refine pv_iald (k := 26) (n := 24) (pc := 65) (by decide) rfl rfl (ix_in hd2 (by omega)) (fm_dec dtX1_outcome 34 rfl) ?_
          refine pv_aloadn (pc := 66) (n := 0) 0 rfl rfl (fm_dec dtX1_outcome 35 rfl) ?_
          refine pv_getR (k := 23) (j := 2) (ci := 1) (pc := 67) 26 rfl (by decide) pfl_X1_18 (by decide) rfl (by decide) (fm_dec dtX1_outcome 36 rfl) ?_
          refine pv_iload (pc := 70) (i := 6) rfl (fm_dec dtX1_outcome 37 rfl) ?_
          refine pv_iald (k := 26) (n := 24) (pc := 72) (by decide) rfl rfl (ix_in hd1 (by omega)) (fm_dec dtX1_outcome 38 rfl) ?_
          refine pv_iS3 (d' := 0) (pc := 73) pcs_X1_85 (Nat.le_of_ble_eq_true rfl) (by decide) (fm_dec dtX1_outcome 39 rfl) ?_
          refine c_joined (c := c.1) (by omega) hg.2 hx2 ?_
          refine pv_then1 ?_
          refine pv_iast (k := 26) (n := 24) (pc := 76) (by decide) rfl rfl (ix_in hd2 (by omega)) (fm_dec dtX1_outcome 40 rfl) ?_
          refine pv_goto (pc := 77) 185 (by decide) (fm_dec dtX1_outcome 41 rfl) ?_
          refine pv_iincc (pc := 185) 7 1 (by decide) rfl (by decide) rfl (fm_dec dtX1_outcome 80 rfl) ?_
          dsimp only [List.set_cons_zero, List.set_cons_succ]
          refine pv_goto (pc := 188) 6 (by decide) (fm_dec dtX1_outcome 81 rfl) ?_
          rw [i32_cl hd1, i32_cl hd2]
          have eL : lwR (knF a1 a2 a3 a4 a5) (cs.drop i) d (M.1 26) = lwR (knF a1 a2 a3 a4 a5) (cs.drop (i + 1)) (d - 1) ((fmI M 26 (d - 2) (opV c.1 (M.1 26 (d - 2)) (M.1 26 (d - 1)))).1 26) := (by rw [hdr, fmI_row]; simp only [lwR]; rw [if_neg hc2])
          exact ih (cs.length - (i + 1)) (by omega) _ (i + 1) (d - 1) _ _ _ rfl hil (i32_p1 hii (by omega)) hd1 (by omega) hdB (fun k j h => (by rw [fmI_k _ _ h]; exact hfr k j h)) hfr2 (fun M9 tp9 ii9 v9 g1 g2 g3 => hq M9 tp9 ii9 v9 g1 g2 (g3.trans eL.symm))
        · cases hdB
def outV (x : Int32) : Int32 := pvMx true 0 (pvMx false 64 x)
set_option maxRecDepth 20000 in
theorem c_xout {M : fmM} {Q : fmR → fmM → Prop} {cs : tC} {a1 a2 a3 a4 a5 : Int32} (hsz : (M.1 23 3).toInt = (cs.length : Int)) (h150 : cs.length ≤ 150) (hcd : ∀ i c, cs[i]? = some c → (M.1 24 i).toInt = cdV c) (hd : dpB 23 0 cs = some 1) (hq : ∀ M' : fmM, (∀ k j, k ≠ 26 → M'.1 k j = M.1 k j) → M'.2 = M.2 → Q (.inl (some (.int (outV (lwR (knF a1 a2 a3 a4 a5) cs 0 (M.1 26)))))) M') : pvGood Tx 1 qX1_outcome [.ref 23, .int a1, .int a2, .int a3, .int a4, .int a5] M Q := by
  refine pvGood_of (Nat.le_of_ble_eq_true rfl) ?_
  show pvEv Tx 1 qX1_outcome 0 [some (.ref 23), some (.int a1), some (.int a2), some (.int a3), some (.int a4), some (.int a5), none, none, none] [] M Q
  refine pv_iconst (pc := 0) (v := 0) (by decide) (fm_dec dtX1_outcome 0 rfl) ?_
  refine pv_istore (pc := 1) (i := 6) (by decide) rfl (fm_dec dtX1_outcome 1 rfl) ?_
  dsimp only [List.set_cons_zero, List.set_cons_succ]
  refine pv_iconst (pc := 3) (v := 0) (by decide) (fm_dec dtX1_outcome 2 rfl) ?_
  refine pv_istore (pc := 4) (i := 7) (by decide) rfl (fm_dec dtX1_outcome 3 rfl) ?_
  dsimp only [List.set_cons_zero, List.set_cons_succ]
  refine xo_loop hsz h150 hcd _ M 0 0 0 0 _ rfl (Nat.zero_le _) (by decide) (by decide) (by decide) hd (fun _ _ _ => rfl) rfl (fun M9 tp9 ii9 v9 g1 g2 g3 => ?_)
  rw [List.drop_zero] at g3
  refine pv_iconst (pc := 191) (v := 0) (by decide) (fm_dec dtX1_outcome 82 rfl) ?_
  refine pv_bipush (pc := 192) (v := 64) (by decide) (fm_dec dtX1_outcome 83 rfl) ?_
  refine pv_aloadn (pc := 194) (n := 0) 0 rfl rfl (fm_dec dtX1_outcome 84 rfl) ?_
  refine pv_getR (k := 23) (j := 2) (ci := 1) (pc := 195) 26 rfl (by decide) pfl_X1_18 (by decide) rfl (by decide) (fm_dec dtX1_outcome 85 rfl) ?_
  refine pv_iconst (pc := 198) (v := 0) (by decide) (fm_dec dtX1_outcome 86 rfl) ?_
  refine pv_iald (k := 26) (n := 24) (pc := 199) (by decide) rfl rfl (fm_inl (by decide)) (fm_dec dtX1_outcome 87 rfl) ?_
  refine pv_mm (pc := 200) pmm_X1_89 (by decide) (Nat.le_of_ble_eq_true rfl) (fm_dec dtX1_outcome 88 rfl) ?_
  refine pv_mm (pc := 203) pmm_X1_94 (by decide) (Nat.le_of_ble_eq_true rfl) (fm_dec dtX1_outcome 89 rfl) ?_
  exact pv_ireturn (pc := 206) rfl (fm_dec dtX1_outcome 90 rfl) (by rw [show M9.1 26 (0 : Int32).toNatClampNeg = M9.1 26 0 from rfl, g3]; exact hq M9 g1 g2)
end
-- P 18o
section
-- WOULD, exactly
theorem lwR_cong {kn kn' : Nat → Int32} {B : Nat} (hk : ∀ j, j ≤ 4 → kn j = kn' j) : ∀ (cs : tC) (d : Nat) (st st' : Nat → Int32), dpB B d cs = some 1 → (∀ j, j < d → st j = st' j) → lwR kn cs d st = lwR kn' cs d st'
  | [], d, st, st', h, hs => by
    cases h
    exact hs 0 (by decide)
  | c :: cs, d, st, st', h, hs => by
    simp only [dpB] at h
    simp only [lwR]
    split at h
    · rename_i h2
      split at h
      · rename_i hg
        rw [if_pos h2, if_pos h2]
        refine lwR_cong hk cs (d + 1) _ _ h (fun j hj => ?_)
        by_cases e : j = d
        · simp only [e, if_true]
          by_cases e0 : c.1 = 0
          · rw [if_pos e0, if_pos e0]
          · rw [if_neg e0, if_neg e0]
            exact hk _ (by omega)
        · simp only [e, if_false]
          exact hs j (by omega)
      · cases h
    · rename_i h2
      split at h
      · rename_i hg
        rw [if_neg h2, if_neg h2]
        refine lwR_cong hk cs (d - 1) _ _ h (fun j hj => ?_)
        by_cases e : j = d - 2
        · simp only [e, if_true]
          rw [hs (d - 2) (by omega), hs (d - 1) (by omega)]
        · simp only [e, if_false]
          exact hs j (by omega)
      · cases h
/-- codes as they stand here: of no law, twice the age -/
def xcs (cs : tC) : tC := if cs = [] then [(1, 0), (1, 0), (2, 0)] else cs
def lwX (M : fmM) (cs : tC) : Prop := (M.1 23 3).toInt = ((xcs cs).length : Int) ∧ (xcs cs).length ≤ 150 ∧ (∀ i c, (xcs cs)[i]? = some c → (M.1 24 i).toInt = cdV c) ∧ dpB 23 0 (xcs cs) = some 1
def lwM (M : fmM) (cs : tC) : Prop := (M.1 0 17).toInt = (cs.length : Int) ∧ cs.length ≤ 160 ∧ (cs = [] ∨ dpR 0 cs = some 1) ∧ lwHas M.1 91 cs
/-- what a law says -/
def lwV (cs : tC) (a b c d e : Int32) : Int32 := outV (lwR (knF a b c d e) (xcs cs) 0 (fun _ => 0))
def wdP (a b c d e : Int32) : Prop := inW a 0 200 ∧ inW b 0 200 ∧ inW c 1 99 ∧ inW d 0 1 ∧ inW e 0 24
theorem c_xlw {M : fmM} {Q : fmR → fmM → Prop} {cs : tC} {a b c d e : Int32} (h : lwX M cs) (hq : ∀ M' : fmM, (∀ k j, k ≠ 26 → M'.1 k j = M.1 k j) → M'.2 = M.2 → Q (.inl (some (.int (lwV cs a b c d e)))) M') : pvGood Tx 1 qX1_outcome [.ref 23, .int a, .int b, .int c, .int d, .int e] M Q := c_xout h.1 h.2.1 h.2.2.1 h.2.2.2 (fun M' h1 h2 => by
  rw [lwR_cong (fun _ _ => rfl) (xcs cs) 0 (M.1 26) (fun _ => 0) h.2.2.2 (fun j hj => absurd hj (Nat.not_lt_zero j))]
  exact hq M' h1 h2)
set_option maxRecDepth 20000 in
theorem c_xwould {M : fmM} {Q : fmR → fmM → Prop} {cs : tC} {a b c d e : Int32} (hL : lwX M cs) (ht : wdP a b c d e → ∀ M' : fmM, (∀ k j, k ≠ 26 → M'.1 k j = M.1 k j) → M'.2 = M.2 → Q (.inl (some (.int (lwV cs a b c d e)))) M') (hf : ¬ wdP a b c d e → Q (.inr fmIAE) (fmI M 0 16 (M.1 0 16 + 1))) : pvGood Tx 2 qX10_would [.ref 0, .int a, .int b, .int c, .int d, .int e] M Q := by
  refine pvGood_of (Nat.le_of_ble_eq_true rfl) ?_
  show pvEv Tx 2 qX10_would 0 [some (.ref 0), some (.int a), some (.int b), some (.int c), some (.int d), some (.int e)] [] M Q
  refine pv_aloadn (pc := 0) (n := 0) 0 rfl rfl (fm_dec dtX10_would 0 rfl) ?_
  refine pv_iloadn (pc := 1) (n := 1) 1 rfl rfl (fm_dec dtX10_would 1 rfl) ?_
  refine pv_iconst (pc := 2) (v := 0) (by decide) (fm_dec dtX10_would 2 rfl) ?_
  refine pv_sipush (pc := 3) (v := 200) (by decide) (fm_dec dtX10_would 3 rfl) ?_
  refine pv_invV3 (k := 0) (d' := 0) (pc := 6) pcv_X10_169 (by decide) rfl (Nat.le_of_ble_eq_true rfl) (by decide) (fm_dec dtX10_would 4 rfl) ?_
  refine c_needW (fun h6a h6b => ?_) (fun h6 => ?_)
  · refine pv_then0 ?_
    refine pv_aloadn (pc := 9) (n := 0) 0 rfl rfl (fm_dec dtX10_would 5 rfl) ?_
    refine pv_iloadn (pc := 10) (n := 2) 2 rfl rfl (fm_dec dtX10_would 6 rfl) ?_
    refine pv_iconst (pc := 11) (v := 0) (by decide) (fm_dec dtX10_would 7 rfl) ?_
    refine pv_sipush (pc := 12) (v := 200) (by decide) (fm_dec dtX10_would 8 rfl) ?_
    refine pv_invV3 (k := 0) (d' := 0) (pc := 15) pcv_X10_169 (by decide) rfl (Nat.le_of_ble_eq_true rfl) (by decide) (fm_dec dtX10_would 9 rfl) ?_
    refine c_needW (fun h15a h15b => ?_) (fun h15 => ?_)
    · refine pv_then0 ?_
      refine pv_aloadn (pc := 18) (n := 0) 0 rfl rfl (fm_dec dtX10_would 10 rfl) ?_
      refine pv_iloadn (pc := 19) (n := 3) 3 rfl rfl (fm_dec dtX10_would 11 rfl) ?_
      refine pv_iconst (pc := 20) (v := 1) (by decide) (fm_dec dtX10_would 12 rfl) ?_
      refine pv_bipush (pc := 21) (v := 99) (by decide) (fm_dec dtX10_would 13 rfl) ?_
      refine pv_invV3 (k := 0) (d' := 0) (pc := 23) pcv_X10_169 (by decide) rfl (Nat.le_of_ble_eq_true rfl) (by decide) (fm_dec dtX10_would 14 rfl) ?_
      refine c_needW (fun h23a h23b => ?_) (fun h23 => ?_)
      · refine pv_then0 ?_
        refine pv_aloadn (pc := 26) (n := 0) 0 rfl rfl (fm_dec dtX10_would 15 rfl) ?_
        refine pv_iload (pc := 27) (i := 4) rfl (fm_dec dtX10_would 16 rfl) ?_
        refine pv_iconst (pc := 29) (v := 0) (by decide) (fm_dec dtX10_would 17 rfl) ?_
        refine pv_iconst (pc := 30) (v := 1) (by decide) (fm_dec dtX10_would 18 rfl) ?_
        refine pv_invV3 (k := 0) (d' := 0) (pc := 31) pcv_X10_169 (by decide) rfl (Nat.le_of_ble_eq_true rfl) (by decide) (fm_dec dtX10_would 19 rfl) ?_
        refine c_needW (fun h31a h31b => ?_) (fun h31 => ?_)
        · refine pv_then0 ?_
          refine pv_aloadn (pc := 34) (n := 0) 0 rfl rfl (fm_dec dtX10_would 20 rfl) ?_
          refine pv_iload (pc := 35) (i := 5) rfl (fm_dec dtX10_would 21 rfl) ?_
          refine pv_iconst (pc := 37) (v := 0) (by decide) (fm_dec dtX10_would 22 rfl) ?_
          refine pv_bipush (pc := 38) (v := 24) (by decide) (fm_dec dtX10_would 23 rfl) ?_
          refine pv_invV3 (k := 0) (d' := 0) (pc := 40) pcv_X10_169 (by decide) rfl (Nat.le_of_ble_eq_true rfl) (by decide) (fm_dec dtX10_would 24 rfl) ?_
          refine c_needW (fun h40a h40b => ?_) (fun h40 => ?_)
          · refine pv_then0 ?_
            refine pv_aloadn (pc := 43) (n := 0) 0 rfl rfl (fm_dec dtX10_would 25 rfl) ?_
            refine pv_getR (k := 0) (j := 3) (ci := 10) (pc := 44) 23 rfl (by decide) pfl_X10_29 (by decide) rfl (by decide) (fm_dec dtX10_would 26 rfl) ?_
            refine pv_iloadn (pc := 47) (n := 1) 1 rfl rfl (fm_dec dtX10_would 27 rfl) ?_
            refine pv_iloadn (pc := 48) (n := 2) 2 rfl rfl (fm_dec dtX10_would 28 rfl) ?_
            refine pv_iloadn (pc := 49) (n := 3) 3 rfl rfl (fm_dec dtX10_would 29 rfl) ?_
            refine pv_iload (pc := 50) (i := 4) rfl (fm_dec dtX10_would 30 rfl) ?_
            refine pv_iload (pc := 52) (i := 5) rfl (fm_dec dtX10_would 31 rfl) ?_
            refine pv_invV5 (k := 23) (d' := 1) (pc := 54) pcv_X10_233 (by decide) rfl (Nat.le_of_ble_eq_true rfl) (by decide) (fm_dec dtX10_would 32 rfl) ?_
            refine c_xlw hL (fun M54 g54 h54 => ?_)
            refine pv_then1 ?_
            exact pv_ireturn (pc := 57) rfl (fm_dec dtX10_would 33 rfl) (ht ⟨⟨h6a, h6b⟩, ⟨h15a, h15b⟩, ⟨h23a, h23b⟩, ⟨h31a, h31b⟩, ⟨h40a, h40b⟩⟩ M54 g54 h54)
          · refine pv_thenX ?_
            exact hf (fun h9 => h40 (by first | exact h9.1 | exact h9.2.1 | exact h9.2.2.1 | exact h9.2.2.2.1 | exact h9.2.2.2.2))
        · refine pv_thenX ?_
          exact hf (fun h9 => h31 (by first | exact h9.1 | exact h9.2.1 | exact h9.2.2.1 | exact h9.2.2.2.1 | exact h9.2.2.2.2))
      · refine pv_thenX ?_
        exact hf (fun h9 => h23 (by first | exact h9.1 | exact h9.2.1 | exact h9.2.2.1 | exact h9.2.2.2.1 | exact h9.2.2.2.2))
    · refine pv_thenX ?_
      exact hf (fun h9 => h15 (by first | exact h9.1 | exact h9.2.1 | exact h9.2.2.1 | exact h9.2.2.2.1 | exact h9.2.2.2.2))
  · refine pv_thenX ?_
    exact hf (fun h9 => h6 (by first | exact h9.1 | exact h9.2.1 | exact h9.2.2.1 | exact h9.2.2.2.1 | exact h9.2.2.2.2))
def knM (M : fmM) (a b c d e : Int32) : fmM := (fmI (fmI (fmI (fmI (fmI M 6 0 a) 6 1 b) 6 2 c) 6 3 d) 6 4 e)
theorem lw_val {M : fmM} {cs : tC} {a b c d e : Int32} {st : Nat → Int32} (hd : cs = [] ∨ dpB 23 0 cs = some 1) : outV (if cs = [] then (knM M a b c d e).1 6 0 + (knM M a b c d e).1 6 0 else lwR ((knM M a b c d e).1 6) cs 0 st) = lwV cs a b c d e := by
  unfold lwV xcs
  by_cases e0 : cs = []
  · rw [if_pos e0, if_pos e0]
    rfl
  · rw [if_neg e0, if_neg e0]
    rcases hd with h | h
    · exact absurd h e0
    · rw [lwR_cong (kn' := knF a b c d e) (fun j hj => ?_) cs 0 st (fun _ => 0) h (fun j hj => absurd hj (Nat.not_lt_zero j))]
      rcases (show j = 0 ∨ j = 1 ∨ j = 2 ∨ j = 3 ∨ j = 4 by omega) with rfl | rfl | rfl | rfl | rfl <;> rfl
theorem lwM.kn {M : fmM} {cs : tC} {a b c d e : Int32} (h : lwM M cs) : lwM (knM M a b c d e) cs := ⟨h.1, h.2.1, h.2.2.1, h.2.2.2.fr (fun k j hk => by unfold knM; rw [fmI_k _ _ (by omega), fmI_k _ _ (by omega), fmI_k _ _ (by omega), fmI_k _ _ (by omega), fmI_k _ _ (by omega)])⟩
set_option maxRecDepth 20000 in
theorem c_mlw {M : fmM} {Q : fmR → fmM → Prop} {cs : tC} {a b c d e : Int32} (hL : lwM M cs) (hd : cs = [] ∨ dpB 23 0 cs = some 1) (hq : ∀ M' : fmM, (∀ k j, k ≠ 5 → k ≠ 6 → M'.1 k j = M.1 k j) → M'.2 = M.2 → Q (.inl (some (.int (lwV cs a b c d e)))) M') : pvGood Tm 4 qX11_wrongBy [.ref 0, .int a, .int b, .int c, .int d, .int e] M Q := by
  refine pvGood_of (Nat.le_of_ble_eq_true rfl) ?_
  show pvEv Tm 4 qX11_wrongBy 0 [some (.ref 0), some (.int a), some (.int b), some (.int c), some (.int d), some (.int e)] [] M Q
  refine pv_aloadn (pc := 0) (n := 0) 0 rfl rfl (fm_dec dtX11_wrongBy 0 rfl) ?_
  refine pv_getR (k := 0) (j := 24) (ci := 11) (pc := 1) 6 rfl (by decide) pfl_X11_55 (by decide) rfl (by decide) (fm_dec dtX11_wrongBy 1 rfl) ?_
  refine pv_iconst (pc := 4) (v := 0) (by decide) (fm_dec dtX11_wrongBy 2 rfl) ?_
  refine pv_iloadn (pc := 5) (n := 1) 1 rfl rfl (fm_dec dtX11_wrongBy 3 rfl) ?_
  refine pv_iast (k := 6) (n := 5) (pc := 6) (by decide) rfl rfl (fm_inl (by decide)) (fm_dec dtX11_wrongBy 4 rfl) ?_
  refine pv_aloadn (pc := 7) (n := 0) 0 rfl rfl (fm_dec dtX11_wrongBy 5 rfl) ?_
  refine pv_getR (k := 0) (j := 24) (ci := 11) (pc := 8) 6 rfl (by decide) pfl_X11_55 (by decide) rfl (by decide) (fm_dec dtX11_wrongBy 6 rfl) ?_
  refine pv_iconst (pc := 11) (v := 1) (by decide) (fm_dec dtX11_wrongBy 7 rfl) ?_
  refine pv_iloadn (pc := 12) (n := 2) 2 rfl rfl (fm_dec dtX11_wrongBy 8 rfl) ?_
  refine pv_iast (k := 6) (n := 5) (pc := 13) (by decide) rfl rfl (fm_inl (by decide)) (fm_dec dtX11_wrongBy 9 rfl) ?_
  refine pv_aloadn (pc := 14) (n := 0) 0 rfl rfl (fm_dec dtX11_wrongBy 10 rfl) ?_
  refine pv_getR (k := 0) (j := 24) (ci := 11) (pc := 15) 6 rfl (by decide) pfl_X11_55 (by decide) rfl (by decide) (fm_dec dtX11_wrongBy 11 rfl) ?_
  refine pv_iconst (pc := 18) (v := 2) (by decide) (fm_dec dtX11_wrongBy 12 rfl) ?_
  refine pv_iloadn (pc := 19) (n := 3) 3 rfl rfl (fm_dec dtX11_wrongBy 13 rfl) ?_
  refine pv_iast (k := 6) (n := 5) (pc := 20) (by decide) rfl rfl (fm_inl (by decide)) (fm_dec dtX11_wrongBy 14 rfl) ?_
  refine pv_aloadn (pc := 21) (n := 0) 0 rfl rfl (fm_dec dtX11_wrongBy 15 rfl) ?_
  refine pv_getR (k := 0) (j := 24) (ci := 11) (pc := 22) 6 rfl (by decide) pfl_X11_55 (by decide) rfl (by decide) (fm_dec dtX11_wrongBy 16 rfl) ?_
  refine pv_iconst (pc := 25) (v := 3) (by decide) (fm_dec dtX11_wrongBy 17 rfl) ?_
  refine pv_iload (pc := 26) (i := 4) rfl (fm_dec dtX11_wrongBy 18 rfl) ?_
  refine pv_iast (k := 6) (n := 5) (pc := 28) (by decide) rfl rfl (fm_inl (by decide)) (fm_dec dtX11_wrongBy 19 rfl) ?_
  refine pv_aloadn (pc := 29) (n := 0) 0 rfl rfl (fm_dec dtX11_wrongBy 20 rfl) ?_
  refine pv_getR (k := 0) (j := 24) (ci := 11) (pc := 30) 6 rfl (by decide) pfl_X11_55 (by decide) rfl (by decide) (fm_dec dtX11_wrongBy 21 rfl) ?_
  refine pv_iconst (pc := 33) (v := 4) (by decide) (fm_dec dtX11_wrongBy 22 rfl) ?_
  refine pv_iload (pc := 34) (i := 5) rfl (fm_dec dtX11_wrongBy 23 rfl) ?_
  refine pv_iast (k := 6) (n := 5) (pc := 36) (by decide) rfl rfl (fm_inl (by decide)) (fm_dec dtX11_wrongBy 24 rfl) ?_
  refine pv_iconst (pc := 37) (v := 0) (by decide) (fm_dec dtX11_wrongBy 25 rfl) ?_
  refine pv_bipush (pc := 38) (v := 64) (by decide) (fm_dec dtX11_wrongBy 26 rfl) ?_
  refine pv_aloadn (pc := 40) (n := 0) 0 rfl rfl (fm_dec dtX11_wrongBy 27 rfl) ?_
  refine pv_invV0 (k := 0) (d' := 3) (pc := 41) pcv_X11_260 (by decide) rfl (Nat.le_of_ble_eq_true rfl) (by decide) (fm_dec dtX11_wrongBy 28 rfl) ?_
  refine c_byLaw (M := knM M a b c d e) (hL.kn (a := a) (b := b) (c := c) (d := d) (e := e)).1 (hL.kn (a := a) (b := b) (c := c) (d := d) (e := e)).2.1 (hL.kn (a := a) (b := b) (c := c) (d := d) (e := e)).2.2.1 (hL.kn (a := a) (b := b) (c := c) (d := d) (e := e)).2.2.2 (fun M41 g41 h41 => ?_)
  refine pv_then1 ?_
  refine pv_mm (pc := 44) pmm_X11_237 (by decide) (Nat.le_of_ble_eq_true rfl) (fm_dec dtX11_wrongBy 29 rfl) ?_
  refine pv_mm (pc := 47) pmm_X11_240 (by decide) (Nat.le_of_ble_eq_true rfl) (fm_dec dtX11_wrongBy 30 rfl) ?_
  exact pv_ireturn (pc := 50) rfl (fm_dec dtX11_wrongBy 31 rfl) (by have h9 := hq M41 (fun k j a1 a2 => ?_) h41; rw [← lw_val (M := M) (st := (knM M a b c d e).1 5) hd] at h9; exact h9; rw [g41 k j (fun h8 => a1 h8.1)]; unfold knM; rw [fmI_k _ _ a2, fmI_k _ _ a2, fmI_k _ _ a2, fmI_k _ _ a2, fmI_k _ _ a2])
set_option maxRecDepth 20000 in
theorem c_mwould {M : fmM} {Q : fmR → fmM → Prop} {cs : tC} {a b c d e : Int32} (hL : lwM M cs) (hd : cs = [] ∨ dpB 23 0 cs = some 1) (ht : wdP a b c d e → ∀ M' : fmM, (∀ k j, k ≠ 5 → k ≠ 6 → M'.1 k j = (fmI M 0 0 0).1 k j) → M'.2 = M.2 → Q (.inl (some (.int (lwV cs a b c d e)))) M') (hf : ¬ wdP a b c d e → ∀ M' : fmM, M'.1 0 0 = 1 → Q (.inl (some (.int 0))) M') : pvGood Tm 5 qX11_would [.ref 0, .int a, .int b, .int c, .int d, .int e] M Q := by
  refine pvGood_of (Nat.le_of_ble_eq_true rfl) ?_
  show pvEv Tm 5 qX11_would 0 [some (.ref 0), some (.int a), some (.int b), some (.int c), some (.int d), some (.int e)] [] M Q
  refine pv_aloadn (pc := 0) (n := 0) 0 rfl rfl (fm_dec dtX11_would 0 rfl) ?_
  refine pv_iconst (pc := 1) (v := 0) (by decide) (fm_dec dtX11_would 1 rfl) ?_
  refine pv_putI (k := 0) (j := 0) (ci := 11) (pc := 2) pfl_X11_101 (by decide) rfl (by decide) (fm_dec dtX11_would 2 rfl) ?_
  refine pv_aloadn (pc := 5) (n := 0) 0 rfl rfl (fm_dec dtX11_would 3 rfl) ?_
  refine pv_iloadn (pc := 6) (n := 1) 1 rfl rfl (fm_dec dtX11_would 4 rfl) ?_
  refine pv_iconst (pc := 7) (v := 0) (by decide) (fm_dec dtX11_would 5 rfl) ?_
  refine pv_sipush (pc := 8) (v := 200) (by decide) (fm_dec dtX11_would 6 rfl) ?_
  refine pv_iS3 (d' := 0) (pc := 11) pcs_X11_135 (Nat.le_of_ble_eq_true rfl) (by decide) (fm_dec dtX11_would 7 rfl) ?_
  refine c_in (fun h11a h11b => ?_) (fun h11 => ?_)
  · refine pv_then1 ?_
    refine pv_if_eq (pc := 14) 59 (by decide) (fm_dec dtX11_would 8 rfl) (fun hc14 => by exfalso; revert hc14; decide) (fun _ => ?_)
    refine pv_iloadn (pc := 17) (n := 2) 2 rfl rfl (fm_dec dtX11_would 9 rfl) ?_
    refine pv_iconst (pc := 18) (v := 0) (by decide) (fm_dec dtX11_would 10 rfl) ?_
    refine pv_sipush (pc := 19) (v := 200) (by decide) (fm_dec dtX11_would 11 rfl) ?_
    refine pv_iS3 (d' := 0) (pc := 22) pcs_X11_135 (Nat.le_of_ble_eq_true rfl) (by decide) (fm_dec dtX11_would 12 rfl) ?_
    refine c_in (fun h22a h22b => ?_) (fun h22 => ?_)
    · refine pv_then1 ?_
      refine pv_if_eq (pc := 25) 59 (by decide) (fm_dec dtX11_would 13 rfl) (fun hc25 => by exfalso; revert hc25; decide) (fun _ => ?_)
      refine pv_iloadn (pc := 28) (n := 3) 3 rfl rfl (fm_dec dtX11_would 14 rfl) ?_
      refine pv_iconst (pc := 29) (v := 1) (by decide) (fm_dec dtX11_would 15 rfl) ?_
      refine pv_bipush (pc := 30) (v := 99) (by decide) (fm_dec dtX11_would 16 rfl) ?_
      refine pv_iS3 (d' := 0) (pc := 32) pcs_X11_135 (Nat.le_of_ble_eq_true rfl) (by decide) (fm_dec dtX11_would 17 rfl) ?_
      refine c_in (fun h32a h32b => ?_) (fun h32 => ?_)
      · refine pv_then1 ?_
        refine pv_if_eq (pc := 35) 59 (by decide) (fm_dec dtX11_would 18 rfl) (fun hc35 => by exfalso; revert hc35; decide) (fun _ => ?_)
        refine pv_iload (pc := 38) (i := 4) rfl (fm_dec dtX11_would 19 rfl) ?_
        refine pv_iconst (pc := 40) (v := 0) (by decide) (fm_dec dtX11_would 20 rfl) ?_
        refine pv_iconst (pc := 41) (v := 1) (by decide) (fm_dec dtX11_would 21 rfl) ?_
        refine pv_iS3 (d' := 0) (pc := 42) pcs_X11_135 (Nat.le_of_ble_eq_true rfl) (by decide) (fm_dec dtX11_would 22 rfl) ?_
        refine c_in (fun h42a h42b => ?_) (fun h42 => ?_)
        · refine pv_then1 ?_
          refine pv_if_eq (pc := 45) 59 (by decide) (fm_dec dtX11_would 23 rfl) (fun hc45 => by exfalso; revert hc45; decide) (fun _ => ?_)
          refine pv_iload (pc := 48) (i := 5) rfl (fm_dec dtX11_would 24 rfl) ?_
          refine pv_iconst (pc := 50) (v := 0) (by decide) (fm_dec dtX11_would 25 rfl) ?_
          refine pv_bipush (pc := 51) (v := 24) (by decide) (fm_dec dtX11_would 26 rfl) ?_
          refine pv_iS3 (d' := 0) (pc := 53) pcs_X11_135 (Nat.le_of_ble_eq_true rfl) (by decide) (fm_dec dtX11_would 27 rfl) ?_
          refine c_in (fun h53a h53b => ?_) (fun h53 => ?_)
          · refine pv_then1 ?_
            refine pv_if_ne (pc := 56) 63 (by decide) (fm_dec dtX11_would 28 rfl) (fun _ => ?_) (fun hc56 => by exfalso; revert hc56; decide)
            refine pv_iconst (pc := 63) (v := 0) (by decide) (fm_dec dtX11_would 31 rfl) ?_
            refine pv_iconst (pc := 64) (v := 1) (by decide) (fm_dec dtX11_would 32 rfl) ?_
            refine pv_iconst (pc := 65) (v := 1) (by decide) (fm_dec dtX11_would 33 rfl) ?_
            refine pv_invV3 (k := 0) (d' := 0) (pc := 66) pcv_X11_177 (by decide) rfl (Nat.le_of_ble_eq_true rfl) (by decide) (fm_dec dtX11_would 34 rfl) ?_
            refine c_badF1 rfl ?_
            refine pv_then1 ?_
            refine pv_if_eq (pc := 69) 74 (by decide) (fm_dec dtX11_would 35 rfl) (fun _ => ?_) (fun hc69 => by exfalso; revert hc69; decide)
            refine pv_aloadn (pc := 74) (n := 0) 0 rfl rfl (fm_dec dtX11_would 38 rfl) ?_
            refine pv_iloadn (pc := 75) (n := 1) 1 rfl rfl (fm_dec dtX11_would 39 rfl) ?_
            refine pv_iloadn (pc := 76) (n := 2) 2 rfl rfl (fm_dec dtX11_would 40 rfl) ?_
            refine pv_iloadn (pc := 77) (n := 3) 3 rfl rfl (fm_dec dtX11_would 41 rfl) ?_
            refine pv_iload (pc := 78) (i := 4) rfl (fm_dec dtX11_would 42 rfl) ?_
            refine pv_iload (pc := 80) (i := 5) rfl (fm_dec dtX11_would 43 rfl) ?_
            refine pv_invV5 (k := 0) (d' := 4) (pc := 82) pcv_X11_273 (by decide) rfl (Nat.le_of_ble_eq_true rfl) (by decide) (fm_dec dtX11_would 44 rfl) ?_
            refine c_mlw (M := fmI M 0 0 0) ⟨hL.1, hL.2.1, hL.2.2.1, hL.2.2.2.fr (fun k j hk => by rw [fmI_k _ _ (by omega)])⟩ hd (fun M82 g82 h82 => ?_)
            refine pv_then1 ?_
            exact pv_ireturn (pc := 85) rfl (fm_dec dtX11_would 45 rfl) (ht ⟨⟨h11a, h11b⟩, ⟨h22a, h22b⟩, ⟨h32a, h32b⟩, ⟨h42a, h42b⟩, ⟨h53a, h53b⟩⟩ M82 g82 h82)
          · refine pv_then1 ?_
            refine pv_if_ne (pc := 56) 63 (by decide) (fm_dec dtX11_would 28 rfl) (fun hc56 => by exfalso; revert hc56; decide) (fun _ => ?_)
            refine pv_iconst (pc := 59) (v := 1) (by decide) (fm_dec dtX11_would 29 rfl) ?_
            refine pv_goto (pc := 60) 64 (by decide) (fm_dec dtX11_would 30 rfl) ?_
            refine pv_iconst (pc := 64) (v := 1) (by decide) (fm_dec dtX11_would 32 rfl) ?_
            refine pv_iconst (pc := 65) (v := 1) (by decide) (fm_dec dtX11_would 33 rfl) ?_
            refine pv_invV3 (k := 0) (d' := 0) (pc := 66) pcv_X11_177 (by decide) rfl (Nat.le_of_ble_eq_true rfl) (by decide) (fm_dec dtX11_would 34 rfl) ?_
            refine c_badT1 rfl (by decide) ?_
            refine pv_then1 ?_
            refine pv_if_eq (pc := 69) 74 (by decide) (fm_dec dtX11_would 35 rfl) (fun hc69 => by exfalso; revert hc69; decide) (fun _ => ?_)
            refine pv_iconst (pc := 72) (v := 0) (by decide) (fm_dec dtX11_would 36 rfl) ?_
            exact pv_ireturn (pc := 73) rfl (fm_dec dtX11_would 37 rfl) (hf (by intro h9; first | exact h53 h9.2.2.2.2 | exact h42 h9.2.2.2.1 | exact h32 h9.2.2.1 | exact h22 h9.2.1 | exact h11 h9.1) _ rfl)
        · refine pv_then1 ?_
          refine pv_if_eq (pc := 45) 59 (by decide) (fm_dec dtX11_would 23 rfl) (fun _ => ?_) (fun hc45 => by exfalso; revert hc45; decide)
          refine pv_iconst (pc := 59) (v := 1) (by decide) (fm_dec dtX11_would 29 rfl) ?_
          refine pv_goto (pc := 60) 64 (by decide) (fm_dec dtX11_would 30 rfl) ?_
          refine pv_iconst (pc := 64) (v := 1) (by decide) (fm_dec dtX11_would 32 rfl) ?_
          refine pv_iconst (pc := 65) (v := 1) (by decide) (fm_dec dtX11_would 33 rfl) ?_
          refine pv_invV3 (k := 0) (d' := 0) (pc := 66) pcv_X11_177 (by decide) rfl (Nat.le_of_ble_eq_true rfl) (by decide) (fm_dec dtX11_would 34 rfl) ?_
          refine c_badT1 rfl (by decide) ?_
          refine pv_then1 ?_
          refine pv_if_eq (pc := 69) 74 (by decide) (fm_dec dtX11_would 35 rfl) (fun hc69 => by exfalso; revert hc69; decide) (fun _ => ?_)
          refine pv_iconst (pc := 72) (v := 0) (by decide) (fm_dec dtX11_would 36 rfl) ?_
          exact pv_ireturn (pc := 73) rfl (fm_dec dtX11_would 37 rfl) (hf (by intro h9; first | exact h53 h9.2.2.2.2 | exact h42 h9.2.2.2.1 | exact h32 h9.2.2.1 | exact h22 h9.2.1 | exact h11 h9.1) _ rfl)
      · refine pv_then1 ?_
        refine pv_if_eq (pc := 35) 59 (by decide) (fm_dec dtX11_would 18 rfl) (fun _ => ?_) (fun hc35 => by exfalso; revert hc35; decide)
        refine pv_iconst (pc := 59) (v := 1) (by decide) (fm_dec dtX11_would 29 rfl) ?_
        refine pv_goto (pc := 60) 64 (by decide) (fm_dec dtX11_would 30 rfl) ?_
        refine pv_iconst (pc := 64) (v := 1) (by decide) (fm_dec dtX11_would 32 rfl) ?_
        refine pv_iconst (pc := 65) (v := 1) (by decide) (fm_dec dtX11_would 33 rfl) ?_
        refine pv_invV3 (k := 0) (d' := 0) (pc := 66) pcv_X11_177 (by decide) rfl (Nat.le_of_ble_eq_true rfl) (by decide) (fm_dec dtX11_would 34 rfl) ?_
        refine c_badT1 rfl (by decide) ?_
        refine pv_then1 ?_
        refine pv_if_eq (pc := 69) 74 (by decide) (fm_dec dtX11_would 35 rfl) (fun hc69 => by exfalso; revert hc69; decide) (fun _ => ?_)
        refine pv_iconst (pc := 72) (v := 0) (by decide) (fm_dec dtX11_would 36 rfl) ?_
        exact pv_ireturn (pc := 73) rfl (fm_dec dtX11_would 37 rfl) (hf (by intro h9; first | exact h53 h9.2.2.2.2 | exact h42 h9.2.2.2.1 | exact h32 h9.2.2.1 | exact h22 h9.2.1 | exact h11 h9.1) _ rfl)
    · refine pv_then1 ?_
      refine pv_if_eq (pc := 25) 59 (by decide) (fm_dec dtX11_would 13 rfl) (fun _ => ?_) (fun hc25 => by exfalso; revert hc25; decide)
      refine pv_iconst (pc := 59) (v := 1) (by decide) (fm_dec dtX11_would 29 rfl) ?_
      refine pv_goto (pc := 60) 64 (by decide) (fm_dec dtX11_would 30 rfl) ?_
      refine pv_iconst (pc := 64) (v := 1) (by decide) (fm_dec dtX11_would 32 rfl) ?_
      refine pv_iconst (pc := 65) (v := 1) (by decide) (fm_dec dtX11_would 33 rfl) ?_
      refine pv_invV3 (k := 0) (d' := 0) (pc := 66) pcv_X11_177 (by decide) rfl (Nat.le_of_ble_eq_true rfl) (by decide) (fm_dec dtX11_would 34 rfl) ?_
      refine c_badT1 rfl (by decide) ?_
      refine pv_then1 ?_
      refine pv_if_eq (pc := 69) 74 (by decide) (fm_dec dtX11_would 35 rfl) (fun hc69 => by exfalso; revert hc69; decide) (fun _ => ?_)
      refine pv_iconst (pc := 72) (v := 0) (by decide) (fm_dec dtX11_would 36 rfl) ?_
      exact pv_ireturn (pc := 73) rfl (fm_dec dtX11_would 37 rfl) (hf (by intro h9; first | exact h53 h9.2.2.2.2 | exact h42 h9.2.2.2.1 | exact h32 h9.2.2.1 | exact h22 h9.2.1 | exact h11 h9.1) _ rfl)
  · refine pv_then1 ?_
    refine pv_if_eq (pc := 14) 59 (by decide) (fm_dec dtX11_would 8 rfl) (fun _ => ?_) (fun hc14 => by exfalso; revert hc14; decide)
    refine pv_iconst (pc := 59) (v := 1) (by decide) (fm_dec dtX11_would 29 rfl) ?_
    refine pv_goto (pc := 60) 64 (by decide) (fm_dec dtX11_would 30 rfl) ?_
    refine pv_iconst (pc := 64) (v := 1) (by decide) (fm_dec dtX11_would 32 rfl) ?_
    refine pv_iconst (pc := 65) (v := 1) (by decide) (fm_dec dtX11_would 33 rfl) ?_
    refine pv_invV3 (k := 0) (d' := 0) (pc := 66) pcv_X11_177 (by decide) rfl (Nat.le_of_ble_eq_true rfl) (by decide) (fm_dec dtX11_would 34 rfl) ?_
    refine c_badT1 rfl (by decide) ?_
    refine pv_then1 ?_
    refine pv_if_eq (pc := 69) 74 (by decide) (fm_dec dtX11_would 35 rfl) (fun hc69 => by exfalso; revert hc69; decide) (fun _ => ?_)
    refine pv_iconst (pc := 72) (v := 0) (by decide) (fm_dec dtX11_would 36 rfl) ?_
    exact pv_ireturn (pc := 73) rfl (fm_dec dtX11_would 37 rfl) (hf (by intro h9; first | exact h53 h9.2.2.2.2 | exact h42 h9.2.2.2.1 | exact h32 h9.2.2.1 | exact h22 h9.2.1 | exact h11 h9.1) _ rfl)
theorem xe_would {M : fmM} {a0 a1 a2 a3 a4 : Int32} {cs : tC} (hX : lwX M cs) : pvGood Tx 250 qX10_would [.ref 0, .int a0, .int a1, .int a2, .int a3, .int a4] M (fun r _ => (wdP a0 a1 a2 a3 a4 ∧ r = .inl (some (.int (lwV cs a0 a1 a2 a3 a4)))) ∨ (¬ wdP a0 a1 a2 a3 a4 ∧ r = .inr fmIAE)) := (c_xwould hX (fun h M' _ _ => Or.inl ⟨h, rfl⟩) (fun h => Or.inr ⟨h, rfl⟩)).up (by decide)
theorem me_would {M : fmM} {a0 a1 a2 a3 a4 : Int32} {cs : tC} (hY : lwM M cs) (hd : cs = [] ∨ dpB 23 0 cs = some 1) : pvGood Tm 250 qX11_would [.ref 0, .int a0, .int a1, .int a2, .int a3, .int a4] M (fun r M' => (wdP a0 a1 a2 a3 a4 ∧ r = .inl (some (.int (lwV cs a0 a1 a2 a3 a4))) ∧ M'.1 0 0 = 0) ∨ (¬ wdP a0 a1 a2 a3 a4 ∧ M'.1 0 0 = 1)) := (c_mwould hY hd (fun h M' g _ => Or.inl ⟨h, rfl, (g 0 0 (by decide) (by decide)).trans rfl⟩) (fun h M' e => Or.inr ⟨h, e⟩)).up (by decide)
end
-- P 18q
section
-- WHAT STAYS, call for call
set_option maxRecDepth 20000 in
theorem c_kwork {M : fmM} {Q : fmR → fmM → Prop} {nn : Int32} (hI : scInv Tx invX M) (hq : ∀ (r : fmR) (M' : fmM), kpt PXk M M' → Q r M') : pvGood Tx 213 qX10_work [.ref 0, .int nn] M Q := by
  refine pvGood_of (Nat.le_of_ble_eq_true rfl) ?_
  show pvEv Tx 213 qX10_work 0 [some (.ref 0), some (.int nn)] [] M Q
  refine pv_aloadn (pc := 0) (n := 0) 0 rfl rfl (fm_dec dtX10_work 0 rfl) ?_
  refine pv_iloadn (pc := 1) (n := 1) 1 rfl rfl (fm_dec dtX10_work 1 rfl) ?_
  refine pv_sipush (pc := 2) (v := 150) (by decide) (fm_dec dtX10_work 2 rfl) ?_
  refine pv_invV2 (k := 0) (d' := 1) (pc := 5) pcv_X10_108 (by decide) rfl (Nat.le_of_ble_eq_true rfl) (by decide) (fm_dec dtX10_work 3 rfl) ?_
  refine c_openT (fun h5 => ?_) (fun h5 => ?_)
  · refine pv_then0 ?_
    have hI5 := inv_open (n := nn) hI h5.1 (by have h9 : nn.toInt ≤ 150 := h5.2.1; omega)
    refine pv_aloadn (pc := 8) (n := 0) 0 rfl rfl (fm_dec dtX10_work 4 rfl) ?_
    refine pv_getR (k := 0) (j := 9) (ci := 10) (pc := 9) 46 rfl (by decide) pfl_X10_75 (by decide) rfl (by decide) (fm_dec dtX10_work 5 rfl) ?_
    refine pv_getI (k := 46) (j := 2) (ci := 5) (pc := 12) pfl_X10_126 (by decide) rfl (by decide) (fm_dec dtX10_work 6 rfl) ?_
    refine pv_bipush (pc := 15) (v := 16) (by decide) (fm_dec dtX10_work 7 rfl) ?_
    refine pv_icmp_lt (pc := 17) 23 (by decide) (fm_dec dtX10_work 8 rfl) (fun hc17 => ?_) (fun hc17 => ?_)
    · refine pv_aloadn (pc := 23) (n := 0) 0 rfl rfl (fm_dec dtX10_work 11 rfl) ?_
      refine pv_getR (k := 0) (j := 5) (ci := 10) (pc := 24) 28 rfl (by decide) pfl_X10_43 (by decide) rfl (by decide) (fm_dec dtX10_work 12 rfl) ?_
      refine pv_aloadn (pc := 27) (n := 0) 0 rfl rfl (fm_dec dtX10_work 13 rfl) ?_
      refine pv_getR (k := 0) (j := 0) (ci := 10) (pc := 28) 1 rfl (by decide) pfl_X10_12 (by decide) rfl (by decide) (fm_dec dtX10_work 14 rfl) ?_
      refine pv_aloadn (pc := 31) (n := 0) 0 rfl rfl (fm_dec dtX10_work 15 rfl) ?_
      refine pv_getR (k := 0) (j := 1) (ci := 10) (pc := 32) 3 rfl (by decide) pfl_X10_19 (by decide) rfl (by decide) (fm_dec dtX10_work 16 rfl) ?_
      refine pv_getI (k := 3) (j := 9) (ci := 8) (pc := 35) pfl_X10_138 (by decide) rfl (by decide) (fm_dec dtX10_work 17 rfl) ?_
      refine pv_invV2 (k := 28) (d' := 27) (pc := 38) pcv_X10_142 (by decide) rfl (Nat.le_of_ble_eq_true rfl) (by decide) (fm_dec dtX10_work 18 rfl) ?_
      refine c_xread hI5 (hI5.1 3 9 (by decide)) (fun M38 z hI38 f38 h4 hz hz2 hS => ?_) (fun M38 hI38 f38 => ?_)  
      · refine pv_then1 ?_
        refine pv_if_ne (pc := 41) 55 (by decide) (fm_dec dtX10_work 19 rfl) (fun _ => ?_) (fun hc41 => by exfalso; revert hc41; decide)
        refine pv_aloadn (pc := 55) (n := 0) 0 rfl rfl (fm_dec dtX10_work 26 rfl) ?_
        refine pv_getR (k := 0) (j := 9) (ci := 10) (pc := 56) 46 rfl (by decide) pfl_X10_75 (by decide) rfl (by decide) (fm_dec dtX10_work 27 rfl) ?_
        refine pv_invV0 (k := 46) (d' := 1) (pc := 59) pcv_X10_145 (by decide) rfl (Nat.le_of_ble_eq_true rfl) (by decide) (fm_dec dtX10_work 28 rfl) ?_
        refine s_keepx hI38 (fun M59 hI59 f59 => ?_)
        refine pv_then0 ?_
        have hQ9 : xQ M59 z 0 := ⟨hz2, fun i a b => (hS i a b).up (Nat.le_refl _) (fun k hk => (f59 k i (kpW_k (by omega))).1), hI59, (by rw [(f59 28 4 (kpW_k (by decide))).1]; exact h4), by decide⟩
        refine pv_aloadn (pc := 62) (n := 0) 0 rfl rfl (fm_dec dtX10_work 29 rfl) ?_
        refine pv_getR (k := 0) (j := 5) (ci := 10) (pc := 63) 28 rfl (by decide) pfl_X10_43 (by decide) rfl (by decide) (fm_dec dtX10_work 30 rfl) ?_
        refine pv_aloadn (pc := 66) (n := 0) 0 rfl rfl (fm_dec dtX10_work 31 rfl) ?_
        refine pv_getR (k := 0) (j := 6) (ci := 10) (pc := 67) 32 rfl (by decide) pfl_X10_52 (by decide) rfl (by decide) (fm_dec dtX10_work 32 rfl) ?_
        refine pv_aloadn (pc := 70) (n := 0) 0 rfl rfl (fm_dec dtX10_work 33 rfl) ?_
        refine pv_getR (k := 0) (j := 9) (ci := 10) (pc := 71) 46 rfl (by decide) pfl_X10_75 (by decide) rfl (by decide) (fm_dec dtX10_work 34 rfl) ?_
        refine pv_getR (k := 46) (j := 0) (ci := 5) (pc := 74) 47 rfl (by decide) pfl_X10_90 (by decide) rfl (by decide) (fm_dec dtX10_work 35 rfl) ?_
        refine pv_iconst (pc := 77) (v := 0) (by decide) (fm_dec dtX10_work 36 rfl) ?_
        refine pv_aloadn (pc := 78) (n := 0) 0 rfl rfl (fm_dec dtX10_work 37 rfl) ?_
        refine pv_getR (k := 0) (j := 5) (ci := 10) (pc := 79) 28 rfl (by decide) pfl_X10_43 (by decide) rfl (by decide) (fm_dec dtX10_work 38 rfl) ?_
        refine pv_getI (k := 28) (j := 3) (ci := 9) (pc := 82) pfl_X10_148 (by decide) rfl (by decide) (fm_dec dtX10_work 39 rfl) ?_
        refine pv_iconst (pc := 85) (v := 0) (by decide) (fm_dec dtX10_work 40 rfl) ?_
        refine pv_invV5 (k := 28) (d' := (12 + 200)) (pc := 86) pcv_X10_151 (by decide) rfl (Nat.le_of_ble_eq_true rfl) (by decide) (fm_dec dtX10_work 41 rfl) ?_
        refine xp_G (xp_P 200) M59 _ z 0 0 z _ 0 0 hQ9 (by omega) (by decide) (by rw [(f59 28 3 (kpW_k (by decide))).1]; exact hz) (Nat.le_refl _) (fun M86 g86 hI86 f86 hg86 _ _ => ?_) 
        refine pv_then0 ?_
        refine pv_aloadn (pc := 89) (n := 0) 0 rfl rfl (fm_dec dtX10_work 42 rfl) ?_
        refine pv_aloadn (pc := 90) (n := 0) 0 rfl rfl (fm_dec dtX10_work 43 rfl) ?_
        refine pv_getR (k := 0) (j := 5) (ci := 10) (pc := 91) 28 rfl (by decide) pfl_X10_43 (by decide) rfl (by decide) (fm_dec dtX10_work 44 rfl) ?_
        refine pv_getI (k := 28) (j := 6) (ci := 9) (pc := 94) pfl_X10_155 (by decide) rfl (by decide) (fm_dec dtX10_work 45 rfl) ?_
        refine pv_putI (k := 0) (j := 14) (ci := 10) (pc := 97) pfl_X10_132 (by decide) rfl (by decide) (fm_dec dtX10_work 46 rfl) ?_
        refine pv_aloadn (pc := 100) (n := 0) 0 rfl rfl (fm_dec dtX10_work 47 rfl) ?_
        refine pv_getR (k := 0) (j := 7) (ci := 10) (pc := 101) 34 rfl (by decide) pfl_X10_61 (by decide) rfl (by decide) (fm_dec dtX10_work 48 rfl) ?_
        refine pv_invV0 (k := 34) (d' := 0) (pc := 104) pcv_X10_135 (by decide) rfl (Nat.le_of_ble_eq_true rfl) (by decide) (fm_dec dtX10_work 49 rfl) ?_
        refine s_forget (xInv.put hI86 (scq_t _)) (fun M104 hI104 f104 => ?_)
        refine pv_then0 ?_
        refine pv_aloadn (pc := 107) (n := 0) 0 rfl rfl (fm_dec dtX10_work 50 rfl) ?_
        refine pv_getR (k := 0) (j := 5) (ci := 10) (pc := 108) 28 rfl (by decide) pfl_X10_43 (by decide) rfl (by decide) (fm_dec dtX10_work 51 rfl) ?_
        refine pv_getI (k := 28) (j := 5) (ci := 9) (pc := 111) pfl_X10_158 (by decide) rfl (by decide) (fm_dec dtX10_work 52 rfl) ?_
        exact pv_ireturn (pc := 114) rfl (fm_dec dtX10_work 53 rfl) (hq _ _ ((kp_xI (((kp_op.trans (kp_of f38 (by decide))).trans (kp_of f59 (by decide))).trans (kp_of f86 (by decide))) (by decide)).trans (kp_of f104 (by decide))))
      · refine pv_then1 ?_
        refine pv_if_ne (pc := 41) 55 (by decide) (fm_dec dtX10_work 19 rfl) (fun hc41 => by exfalso; revert hc41; decide) (fun _ => ?_)
        refine pv_aloadn (pc := 44) (n := 0) 0 rfl rfl (fm_dec dtX10_work 20 rfl) ?_
        refine pv_getR (k := 0) (j := 0) (ci := 10) (pc := 45) 1 rfl (by decide) pfl_X10_12 (by decide) rfl (by decide) (fm_dec dtX10_work 21 rfl) ?_
        refine pv_getI (k := 1) (j := 4) (ci := 7) (pc := 48) pfl_X10_116 (by decide) rfl (by decide) (fm_dec dtX10_work 22 rfl) ?_
        refine pv_bipush (pc := 51) (v := 10) (by decide) (fm_dec dtX10_work 23 rfl) ?_
        refine pv_isub (pc := 53) (fm_dec dtX10_work 24 rfl) ?_
        exact pv_ireturn (pc := 54) rfl (fm_dec dtX10_work 25 rfl) (hq _ _ (kp_op.trans (kp_of f38 (by decide))))
    · refine pv_bipush (pc := 20) (v := (-20)) (by decide) (fm_dec dtX10_work 9 rfl) ?_
      exact pv_ireturn (pc := 22) rfl (fm_dec dtX10_work 10 rfl) (hq _ _ kp_op)
  · refine pv_thenX ?_
    exact hq _ _ (kp_xI (kpt.refl M) (by decide))
set_option maxRecDepth 20000 in
theorem wk_h0 {Q : fmR → fmM → Prop} {M : fmM} {nn : Int32} {ss : tS} {l w : Nat} (hf : M.1 0 5 = 0) (hI : scInv Tm invM M) (hw : (M.1 0 32).toInt = w) (hw16 : w < 16) (hR : stRep M 0 ss) (hO : ssOk l 0 ss) (hn : ss.length ≤ 80) (hl : l ≤ 8) (h4 : (M.1 4 0).toInt = l) (h26 : (M.1 0 26).toInt = (ss.length : Int)) (hq : ∀ (n : Int32) (M' : fmM), kpt PMk M M' → Q (.inl (some (.int n))) M') : pvEv Tm 213 qX11_work 101 [some (.ref 0), some (.int nn)] [] M Q := by
  refine pv_aloadn (pc := 101) (n := 0) 0 rfl rfl (fm_dec dtX11_work 53 rfl) ?_
  refine pv_getI (k := 0) (j := 5) (ci := 11) (pc := 102) pfl_X11_117 (by decide) rfl (by decide) (fm_dec dtX11_work 54 rfl) ?_
  refine pv_if_eq (pc := 105) 113 (by decide) (fm_dec dtX11_work 55 rfl) (fun _ => ?_) (fun hc105 => by exfalso; exact hc105 hf)
  refine pv_aloadn (pc := 113) (n := 0) 0 rfl rfl (fm_dec dtX11_work 59 rfl) ?_
  refine pv_iconst (pc := 114) (v := (-1)) (by decide) (fm_dec dtX11_work 60 rfl) ?_
  refine pv_putI (k := 0) (j := 3) (ci := 11) (pc := 115) pfl_X11_9 (by decide) rfl (by decide) (fm_dec dtX11_work 61 rfl) ?_
  refine pv_aloadn (pc := 118) (n := 0) 0 rfl rfl (fm_dec dtX11_work 62 rfl) ?_
  refine pv_getR (k := 0) (j := 27) (ci := 11) (pc := 119) 7 rfl (by decide) pfl_X11_61 (by decide) rfl (by decide) (fm_dec dtX11_work 63 rfl) ?_
  refine pv_aloadn (pc := 122) (n := 0) 0 rfl rfl (fm_dec dtX11_work 64 rfl) ?_
  refine pv_getR (k := 0) (j := 29) (ci := 11) (pc := 123) 25 rfl (by decide) pfl_X11_67 (by decide) rfl (by decide) (fm_dec dtX11_work 65 rfl) ?_
  refine pv_aloadn (pc := 126) (n := 0) 0 rfl rfl (fm_dec dtX11_work 66 rfl) ?_
  refine pv_getI (k := 0) (j := 32) (ci := 11) (pc := 127) pfl_X11_200 (by decide) rfl (by decide) (fm_dec dtX11_work 67 rfl) ?_
  refine pv_aald (k := 25) (n := 16) (r := (503 + w)) (pc := 130) (by decide) (Or.inr (Or.inr rfl)) rfl (rw_before.inb hw hw16) (rw_before.at hw hw16) (rw_before.2.2.2 _ hw16).2.1 (fm_dec dtX11_work 68 rfl) ?_
  refine pv_iS2 (d' := 0) (pc := 131) pcs_X11_323 (Nat.le_of_ble_eq_true rfl) (by omega) (fm_dec dtX11_work 69 rfl) ?_
  refine s_keep hw16 (hI.put (k := 0) (j := 3) (x := -1) (by decide) rfl) (fun M131 hI131 f131 => ?_) 
  refine pv_then0 ?_
  refine pv_aloadn (pc := 134) (n := 0) 0 rfl rfl (fm_dec dtX11_work 70 rfl) ?_
  refine pv_dup (pc := 135) rfl (fm_dec dtX11_work 71 rfl) ?_
  refine pv_getI (k := 0) (j := 32) (ci := 11) (pc := 136) pfl_X11_200 (by decide) rfl (by decide) (fm_dec dtX11_work 72 rfl) ?_
  refine pv_iconst (pc := 139) (v := 1) (by decide) (fm_dec dtX11_work 73 rfl) ?_
  refine pv_iadd (pc := 140) (fm_dec dtX11_work 74 rfl) ?_
  refine pv_putI (k := 0) (j := 32) (ci := 11) (pc := 141) pfl_X11_200 (by decide) rfl (by decide) (fm_dec dtX11_work 75 rfl) ?_
  refine pv_aloadn (pc := 144) (n := 0) 0 rfl rfl (fm_dec dtX11_work 76 rfl) ?_
  refine pv_iconst (pc := 145) (v := 0) (by decide) (fm_dec dtX11_work 77 rfl) ?_
  refine pv_putI (k := 0) (j := 36) (ci := 11) (pc := 146) pfl_X11_310 (by decide) rfl (by decide) (fm_dec dtX11_work 78 rfl) ?_
  refine pv_aloadn (pc := 149) (n := 0) 0 rfl rfl (fm_dec dtX11_work 79 rfl) ?_
  refine pv_iconst (pc := 150) (v := 0) (by decide) (fm_dec dtX11_work 80 rfl) ?_
  refine pv_putI (k := 0) (j := 37) (ci := 11) (pc := 151) pfl_X11_320 (by decide) rfl (by decide) (fm_dec dtX11_work 81 rfl) ?_
  refine pv_aloadn (pc := 154) (n := 0) 0 rfl rfl (fm_dec dtX11_work 82 rfl) ?_
  refine pv_iconst (pc := 155) (v := 0) (by decide) (fm_dec dtX11_work 83 rfl) ?_
  refine pv_putI (k := 0) (j := 33) (ci := 11) (pc := 156) pfl_X11_203 (by decide) rfl (by decide) (fm_dec dtX11_work 84 rfl) ?_
  have h32 : M131.1 0 32 = M.1 0 32 := (f131 0 32 rfl).1
  have hI5 : scInv Tm invM (wkM M131) := (by unfold wkM; refine inv_c0g (inv_c0g (inv_c0g (hI131.put (k := 0) (j := 32) ?_ rfl) (Or.inr (Or.inl rfl))) (Or.inr (Or.inr rfl))) (Or.inl rfl); rw [h32]; have h9 := i32_p1 hw (by omega); exact ⟨by show (0 : Int) ≤ _; omega, by show _ ≤ (16 : Int); omega⟩)
  have ek : ∀ k j, k ≠ 0 → k < 503 → (wkM M131).1 k j = M.1 k j := fun k j h0 h1 => (by unfold wkM; rw [fmI_k _ _ h0, fmI_k _ _ h0, fmI_k _ _ h0, fmI_k _ _ h0, (f131 k j (cpW_k h1)).1, fmI_k _ _ h0])
  have e26 : (wkM M131).1 0 26 = M.1 0 26 := (by unfold wkM; rw [fmI_j _ _ (by decide), fmI_j _ _ (by decide), fmI_j _ _ (by decide), fmI_j _ _ (by decide), (f131 0 26 rfl).1, fmI_j _ _ (by decide)])
  have hG5 : gSt (wkM M131) ss.length l 0 := gSt_of (hR.of (by omega) (fun k j a b => ek k j (by omega) b)) hO hn hl (by rw [ek 4 0 (by decide) (by decide)]; exact h4) hI5 rfl
  refine pv_aloadn (pc := 159) (n := 0) 0 rfl rfl (fm_dec dtX11_work 85 rfl) ?_
  refine pv_iconst (pc := 160) (v := 0) (by decide) (fm_dec dtX11_work 86 rfl) ?_
  refine pv_aloadn (pc := 161) (n := 0) 0 rfl rfl (fm_dec dtX11_work 87 rfl) ?_
  refine pv_getI (k := 0) (j := 26) (ci := 11) (pc := 162) pfl_X11_250 (by decide) rfl (by decide) (fm_dec dtX11_work 88 rfl) ?_
  refine pv_invV2 (k := 0) (d' := (12 + 200)) (pc := 165) pcv_X11_313 (by decide) rfl (Nat.le_of_ble_eq_true rfl) (by omega) (fm_dec dtX11_work 89 rfl) ?_
  refine gs_G (gs_P 200) _ _ ss.length l 0 0 ss.length 0 _ hG5 (by omega) (by decide) ((congrArg Int32.toInt e26).trans h26) (Nat.le_refl _) (fun M165 g165 hI165 f165 hg165 _ _ => ?_) 
  refine pv_then0 ?_
  refine pv_aloadn (pc := 168) (n := 0) 0 rfl rfl (fm_dec dtX11_work 90 rfl) ?_
  refine pv_getI (k := 0) (j := 37) (ci := 11) (pc := 169) pfl_X11_320 (by decide) rfl (by decide) (fm_dec dtX11_work 91 rfl) ?_
  exact pv_ireturn (pc := 172) rfl (fm_dec dtX11_work 92 rfl) (hq _ M165 (by refine kpt.trans (fun k j hk => ?_) (kp_of f165 (by decide)); have h9 := kpm_k hk; rw [fmI_at, if_neg (by omega), fmI_at, if_neg (by omega), fmI_at, if_neg (by omega), fmI_at, if_neg (by omega), (f131 k j (cpW_k (by omega))).1, fmI_at, if_neg (by omega)]))
set_option maxRecDepth 20000 in
theorem c_hwork {M : fmM} {Q : fmR → fmM → Prop} {nn : Int32} (hI : scInv Tm invM M) (hq : ∀ (r : fmR) (M' : fmM), kpt PMk M M' → Q r M') : pvGood Tm 213 qX11_work [.ref 0, .int nn] M Q := by
  refine pvGood_of (Nat.le_of_ble_eq_true rfl) ?_
  show pvEv Tm 213 qX11_work 0 [some (.ref 0), some (.int nn)] [] M Q
  obtain ⟨l, h4, hl⟩ := told8 hI
  obtain ⟨w, hw, hw16⟩ := works16 hI
  have hI0 := hI.p00 (x := 0) (Or.inl rfl)
  have hfed := inv_fed hI
  refine pv_aloadn (pc := 0) (n := 0) 0 rfl rfl (fm_dec dtX11_work 0 rfl) ?_
  refine pv_iconst (pc := 1) (v := 0) (by decide) (fm_dec dtX11_work 1 rfl) ?_
  refine pv_putI (k := 0) (j := 0) (ci := 11) (pc := 2) pfl_X11_101 (by decide) rfl (by decide) (fm_dec dtX11_work 2 rfl) ?_
  refine pv_aloadn (pc := 5) (n := 0) 0 rfl rfl (fm_dec dtX11_work 3 rfl) ?_
  refine pv_iloadn (pc := 6) (n := 1) 1 rfl rfl (fm_dec dtX11_work 4 rfl) ?_
  refine pv_iconst (pc := 7) (v := 0) (by decide) (fm_dec dtX11_work 5 rfl) ?_
  refine pv_aloadn (pc := 8) (n := 0) 0 rfl rfl (fm_dec dtX11_work 6 rfl) ?_
  refine pv_getI (k := 0) (j := 1) (ci := 11) (pc := 9) pfl_X11_104 (by decide) rfl (by decide) (fm_dec dtX11_work 7 rfl) ?_
  refine pv_iS3 (d' := 0) (pc := 12) pcs_X11_135 (Nat.le_of_ble_eq_true rfl) (by decide) (fm_dec dtX11_work 8 rfl) ?_
  refine c_in (fun h12a h12b => ?_) (fun h12 => ?_)
  · refine pv_then1 ?_
    refine pv_if_eq (pc := 15) 25 (by decide) (fm_dec dtX11_work 9 rfl) (fun hc15 => by exfalso; revert hc15; decide) (fun _ => ?_)
    refine pv_iloadn (pc := 18) (n := 1) 1 rfl rfl (fm_dec dtX11_work 10 rfl) ?_
    refine pv_sipush (pc := 19) (v := 150) (by decide) (fm_dec dtX11_work 11 rfl) ?_
    refine pv_icmp_le (pc := 22) 29 (by decide) (fm_dec dtX11_work 12 rfl) (fun hc22 => ?_) (fun hc22 => ?_)
    · refine pv_iconst (pc := 29) (v := 0) (by decide) (fm_dec dtX11_work 15 rfl) ?_
      refine pv_iconst (pc := 30) (v := 1) (by decide) (fm_dec dtX11_work 16 rfl) ?_
      refine pv_iconst (pc := 31) (v := 1) (by decide) (fm_dec dtX11_work 17 rfl) ?_
      refine pv_invV3 (k := 0) (d' := 0) (pc := 32) pcv_X11_177 (by decide) rfl (Nat.le_of_ble_eq_true rfl) (by decide) (fm_dec dtX11_work 18 rfl) ?_
      refine c_badF1 rfl ?_
      refine pv_then1 ?_
      refine pv_if_eq (pc := 35) 40 (by decide) (fm_dec dtX11_work 19 rfl) (fun _ => ?_) (fun hc35 => by exfalso; revert hc35; decide)
      refine pv_aloadn (pc := 40) (n := 0) 0 rfl rfl (fm_dec dtX11_work 22 rfl) ?_
      refine pv_getI (k := 0) (j := 32) (ci := 11) (pc := 41) pfl_X11_200 (by decide) rfl (by decide) (fm_dec dtX11_work 23 rfl) ?_
      refine pv_bipush (pc := 44) (v := 16) (by decide) (fm_dec dtX11_work 24 rfl) ?_
      refine pv_icmp_ne (pc := 46) 62 (by decide) (fm_dec dtX11_work 25 rfl) (fun hc46 => ?_) (fun hc46 => ?_)
      · obtain ⟨n0, hn0⟩ : ∃ n0 : Nat, nn.toInt = n0 := ⟨nn.toInt.toNat, by have h9 : (0 : Int32).toInt = 0 := (by decide); omega⟩
        have hn150 : n0 ≤ 150 := (by have h9 := hc22; rw [sc_le] at h9; have h8 : (150 : Int32).toInt = 150 := (by decide); omega)
        have hn6 : n0 ≤ 600 := (by omega)
        refine pv_aloadn (pc := 62) (n := 0) 0 rfl rfl (fm_dec dtX11_work 34 rfl) ?_
        refine pv_iloadn (pc := 63) (n := 1) 1 rfl rfl (fm_dec dtX11_work 35 rfl) ?_
        refine pv_invV1 (k := 0) (d' := 2) (pc := 64) pcv_X11_181 (by decide) rfl (Nat.le_of_ble_eq_true rfl) (by omega) (fm_dec dtX11_work 36 rfl) ?_
        refine c_starts (n := n0) (M := fmI M 0 0 0) hfed hn6 hn0 (fun M64 h64 => ?_) 
        refine pv_then0 ?_
        refine pv_aloadn (pc := 67) (n := 0) 0 rfl rfl (fm_dec dtX11_work 37 rfl) ?_
        refine pv_iconst (pc := 68) (v := 0) (by decide) (fm_dec dtX11_work 38 rfl) ?_
        refine pv_putI (k := 0) (j := 26) (ci := 11) (pc := 69) pfl_X11_250 (by decide) rfl (by decide) (fm_dec dtX11_work 39 rfl) ?_
        have hI64 := inv_st hI h64
        have hok9 := rT_ok (n := n0) hfed hn6
        have hs0 : sk (rT M n0) 0 ≤ n0 := sp_le tB_1 hok9 (Nat.zero_le _)
        have hIs : scInv Tm invM (fmI M64 0 26 0) := hI64.put (scq_t 0) rfl
        have h4s : ((fmI M64 0 26 0).1 4 0).toInt = l := (by rw [fmI_k _ _ (by decide), st_k h64 (by decide)]; exact h4)
        have hP : srPre (fmI M64 0 26 0) (rT M n0) n0 (sk (rT M n0) 0) 0 0 l := ⟨h64.1.of rfl rfl rfl, h64.2.1, (by show (M64.1 0 8).toInt = _; rw [h64.2.2.1]; decide), by decide, (by rw [fmI_s]; decide), by omega, hn150, h4s, hl⟩
        have hbd := fun e he => wkL_bad hok9 hn150 700 0 (sk (rT M n0) 0) e hs0 (by omega) he (l := l)
        refine wk_loop (l := l) 700 0 _ _ hP (fun a h9 => by have h8 := (hbd _ h9).1.2; exact absurd h8 (show ¬ 9 ≤ 3 by decide)) (fun M2 ss q e h => ?_) (fun M2 k a e hB => ?_)
        · have g := wkL_ok hok9 700 0 _ ss hs0 e
          refine wk_h0 (l := l) (w := w) h.2.1 (inv_sr hIs h.2.2.2.2.2) (by rw [h.2.2.2.2.2.2.1 32 (by decide) (by decide) (by decide) (by decide) (by decide), fmI_j _ _ (by decide), st_j h64 (by decide)]; exact hw) (by have h9 : ¬ w = 16 := (fun h9 => hc46 (i32_ext (hw.trans (by rw [h9]; decide)))); omega) h.2.2.2.2.1 g.1 (by omega) hl (by rw [h.2.2.2.2.2.1 4 0 (by decide) (by omega)]; exact h4s) (by rw [h.2.2.2.1]; congr 1; omega) (fun n M9 h9 => hq _ _ ((kp_mI (kp_st h64) (by decide)).trans ((kp_sr h.2.2.2.2.2).trans h9)))
        · have hk := hbd _ e
          exact wk_e1 hB.nz (hq _ _ (kp_mI ((kp_mI (kp_st h64) (by decide)).trans (kp_sr hB.2.2.2.2)) (by decide)))
      · refine pv_aloadn (pc := 49) (n := 0) 0 rfl rfl (fm_dec dtX11_work 26 rfl) ?_
        refine pv_iconst (pc := 50) (v := 0) (by decide) (fm_dec dtX11_work 27 rfl) ?_
        refine pv_putI (k := 0) (j := 1) (ci := 11) (pc := 51) pfl_X11_104 (by decide) rfl (by decide) (fm_dec dtX11_work 28 rfl) ?_
        refine pv_aloadn (pc := 54) (n := 0) 0 rfl rfl (fm_dec dtX11_work 29 rfl) ?_
        refine pv_iconst (pc := 55) (v := (-1)) (by decide) (fm_dec dtX11_work 30 rfl) ?_
        refine pv_putI (k := 0) (j := 3) (ci := 11) (pc := 56) pfl_X11_9 (by decide) rfl (by decide) (fm_dec dtX11_work 31 rfl) ?_
        refine pv_bipush (pc := 59) (v := (-20)) (by decide) (fm_dec dtX11_work 32 rfl) ?_
        exact pv_ireturn (pc := 61) rfl (fm_dec dtX11_work 33 rfl) (hq _ _ (kp_mI (kp_mI (kp_mI (kpt.refl M) (by decide)) (by decide)) (by decide)))
    · refine pv_iconst (pc := 25) (v := 1) (by decide) (fm_dec dtX11_work 13 rfl) ?_
      refine pv_goto (pc := 26) 30 (by decide) (fm_dec dtX11_work 14 rfl) ?_
      refine pv_iconst (pc := 30) (v := 1) (by decide) (fm_dec dtX11_work 16 rfl) ?_
      refine pv_iconst (pc := 31) (v := 1) (by decide) (fm_dec dtX11_work 17 rfl) ?_
      refine pv_invV3 (k := 0) (d' := 0) (pc := 32) pcv_X11_177 (by decide) rfl (Nat.le_of_ble_eq_true rfl) (by decide) (fm_dec dtX11_work 18 rfl) ?_
      refine c_badT1 rfl (by decide) ?_
      refine pv_then1 ?_
      refine pv_if_eq (pc := 35) 40 (by decide) (fm_dec dtX11_work 19 rfl) (fun hc35 => by exfalso; revert hc35; decide) (fun _ => ?_)
      refine pv_iconst (pc := 38) (v := 0) (by decide) (fm_dec dtX11_work 20 rfl) ?_
      exact pv_ireturn (pc := 39) rfl (fm_dec dtX11_work 21 rfl) (hq _ _ kp_rf)
  · refine pv_then1 ?_
    refine pv_if_eq (pc := 15) 25 (by decide) (fm_dec dtX11_work 9 rfl) (fun _ => ?_) (fun hc15 => by exfalso; revert hc15; decide)
    refine pv_iconst (pc := 25) (v := 1) (by decide) (fm_dec dtX11_work 13 rfl) ?_
    refine pv_goto (pc := 26) 30 (by decide) (fm_dec dtX11_work 14 rfl) ?_
    refine pv_iconst (pc := 30) (v := 1) (by decide) (fm_dec dtX11_work 16 rfl) ?_
    refine pv_iconst (pc := 31) (v := 1) (by decide) (fm_dec dtX11_work 17 rfl) ?_
    refine pv_invV3 (k := 0) (d' := 0) (pc := 32) pcv_X11_177 (by decide) rfl (Nat.le_of_ble_eq_true rfl) (by decide) (fm_dec dtX11_work 18 rfl) ?_
    refine c_badT1 rfl (by decide) ?_
    refine pv_then1 ?_
    refine pv_if_eq (pc := 35) 40 (by decide) (fm_dec dtX11_work 19 rfl) (fun hc35 => by exfalso; revert hc35; decide) (fun _ => ?_)
    refine pv_iconst (pc := 38) (v := 0) (by decide) (fm_dec dtX11_work 20 rfl) ?_
    exact pv_ireturn (pc := 39) rfl (fm_dec dtX11_work 21 rfl) (hq _ _ kp_rf)
theorem s_im0 {M : fmM} {Q : fmR → fmM → Prop} {k0 : Nat} (hk0 : k0 ∈ [82, 118, 154]) (hI : scInv Tx invX M) (q0 : ∀ M' : fmM, scInv Tx invX M' → scFr [(82, 2, 1), (83, 1, 6), (84, 0, 8), (86, 1, 6), (87, 1, 6), (88, 1, 6), (89, 1, 6), (90, 1, 6), (91, 1, 6), (92, 1, 6), (93, 1, 6), (94, 1, 6), (95, 1, 6), (96, 1, 6), (97, 1, 6), (98, 1, 6), (99, 1, 6), (100, 1, 6), (101, 1, 6), (102, 0, 8), (103, 0, 8), (104, 0, 8), (105, 0, 8), (106, 0, 8), (107, 0, 8), (108, 0, 8), (109, 0, 8), (110, 0, 8), (111, 0, 8), (112, 0, 8), (113, 0, 8), (114, 0, 8), (115, 0, 8), (116, 0, 8), (117, 0, 8), (118, 2, 1), (119, 1, 6), (120, 0, 8), (122, 1, 6), (123, 1, 6), (124, 1, 6), (125, 1, 6), (126, 1, 6), (127, 1, 6), (128, 1, 6), (129, 1, 6), (130, 1, 6), (131, 1, 6), (132, 1, 6), (133, 1, 6), (134, 1, 6), (135, 1, 6), (136, 1, 6), (137, 1, 6), (138, 0, 8), (139, 0, 8), (140, 0, 8), (141, 0, 8), (142, 0, 8), (143, 0, 8), (144, 0, 8), (145, 0, 8), (146, 0, 8), (147, 0, 8), (148, 0, 8), (149, 0, 8), (150, 0, 8), (151, 0, 8), (152, 0, 8), (153, 0, 8), (154, 2, 1), (155, 1, 6), (156, 0, 8), (158, 1, 6), (159, 1, 6), (160, 1, 6), (161, 1, 6), (162, 1, 6), (163, 1, 6), (164, 1, 6), (165, 1, 6), (166, 1, 6), (167, 1, 6), (168, 1, 6), (169, 1, 6), (170, 1, 6), (171, 1, 6), (172, 1, 6), (173, 1, 6), (174, 0, 8), (175, 0, 8), (176, 0, 8), (177, 0, 8), (178, 0, 8), (179, 0, 8), (180, 0, 8), (181, 0, 8), (182, 0, 8), (183, 0, 8), (184, 0, 8), (185, 0, 8), (186, 0, 8), (187, 0, 8), (188, 0, 8), (189, 0, 8)] M M' → Q (.inl none) M') : pvGood Tx 1 qX5_copyFrom [.ref k0, .ref 46] M Q := (hh_X5_copyFrom_0 M [] [.ref k0, .ref 46] scEk.n0 ⟨⟨k0, hk0, rfl⟩, ⟨46, by simp, rfl⟩, trivial⟩ (fun f hf => by cases hf) hI).imp (fun r M' h => by
  obtain ⟨⟨o, ho, hr, hf9, hm⟩, h1, h2⟩ := h
  rcases List.mem_cons.mp ho with rfl | ho
  · have hr : r = .inl none := hr; subst hr; exact q0 M' h1 h2
  · cases ho)
theorem s_im1 {M : fmM} {Q : fmR → fmM → Prop} {k1 : Nat} (hk1 : k1 ∈ [82, 118, 154]) (hI : scInv Tx invX M) (q0 : ∀ M' : fmM, scInv Tx invX M' → scFr [(46, 2, 1), (47, 1, 6), (48, 0, 8), (50, 1, 6), (51, 1, 6), (52, 1, 6), (53, 1, 6), (54, 1, 6), (55, 1, 6), (56, 1, 6), (57, 1, 6), (58, 1, 6), (59, 1, 6), (60, 1, 6), (61, 1, 6), (62, 1, 6), (63, 1, 6), (64, 1, 6), (65, 1, 6), (66, 0, 8), (67, 0, 8), (68, 0, 8), (69, 0, 8), (70, 0, 8), (71, 0, 8), (72, 0, 8), (73, 0, 8), (74, 0, 8), (75, 0, 8), (76, 0, 8), (77, 0, 8), (78, 0, 8), (79, 0, 8), (80, 0, 8), (81, 0, 8)] M M' → Q (.inl none) M') : pvGood Tx 1 qX5_copyFrom [.ref 46, .ref k1] M Q := (hh_X5_copyFrom_1 M [] [.ref 46, .ref k1] scEk.n0 ⟨⟨46, by simp, rfl⟩, ⟨k1, hk1, rfl⟩, trivial⟩ (fun f hf => by cases hf) hI).imp (fun r M' h => by
  obtain ⟨⟨o, ho, hr, hf9, hm⟩, h1, h2⟩ := h
  rcases List.mem_cons.mp ho with rfl | ho
  · have hr : r = .inl none := hr; subst hr; exact q0 M' h1 h2
  · cases ho)
theorem xi_at {x : Int32} {i : Nat} (h : x.toInt = i) (h3 : i < 3) : Tx.2.2.2 43 x.toNatClampNeg = 82 + 36 * i := by
  rw [i32_cl h]
  match i, h3 with
  | 0, _ => rfl
  | 1, _ => rfl
  | 2, _ => rfl
  | i + 3, h => omega
theorem xi_kd {i : Nat} (h3 : i < 3) : Tx.2.1 (82 + 36 * i) = Tx.2.1 82 := by
  match i, h3 with
  | 0, _ => rfl
  | 1, _ => rfl
  | 2, _ => rfl
  | i + 3, h => omega
theorem xi_in {i : Nat} (h3 : i < 3) : 82 + 36 * i ∈ [82, 118, 154] := by
  match i, h3 with
  | 0, _ => simp
  | 1, _ => simp
  | 2, _ => simp
  | i + 3, h => omega
set_option maxRecDepth 20000 in
theorem c_ximage {M : fmM} {Q : fmR → fmM → Prop} {i : Nat} (hI : scInv Tx invX M) (hi : (M.1 0 13).toInt = (i : Int)) (h4 : i ≤ 3) (hn : i = 3 → Q (.inl (some (.int (-1)))) M) (hq : i < 3 → ∀ (M' : fmM) (r : Int32), r.toInt = ((i + 1 : Nat) : Int) → M'.1 0 13 = r → Q (.inl (some (.int r))) M') : pvGood Tx 2 qX10_image [.ref 0] M Q := by
  refine pvGood_of (Nat.le_of_ble_eq_true rfl) ?_
  show pvEv Tx 2 qX10_image 0 [some (.ref 0)] [] M Q
  refine pv_aloadn (pc := 0) (n := 0) 0 rfl rfl (fm_dec dtX10_image 0 rfl) ?_
  refine pv_getI (k := 0) (j := 13) (ci := 10) (pc := 1) pfl_X10_129 (by decide) rfl (by decide) (fm_dec dtX10_image 1 rfl) ?_
  refine pv_iconst (pc := 4) (v := 3) (by decide) (fm_dec dtX10_image 2 rfl) ?_
  refine pv_icmp_lt (pc := 5) 10 (by decide) (fm_dec dtX10_image 3 rfl) (fun hc5 => ?_) (fun hc5 => ?_)
  · have z3 : (3 : Int32).toInt = 3 := (by decide)
    have h3 : i < 3 := (by rw [sc_lt] at hc5; omega)
    refine pv_aloadn (pc := 10) (n := 0) 0 rfl rfl (fm_dec dtX10_image 6 rfl) ?_
    refine pv_getR (k := 0) (j := 10) (ci := 10) (pc := 11) 43 rfl (by decide) pfl_X10_79 (by decide) rfl (by decide) (fm_dec dtX10_image 7 rfl) ?_
    refine pv_aloadn (pc := 14) (n := 0) 0 rfl rfl (fm_dec dtX10_image 8 rfl) ?_
    refine pv_getI (k := 0) (j := 13) (ci := 10) (pc := 15) pfl_X10_129 (by decide) rfl (by decide) (fm_dec dtX10_image 9 rfl) ?_
    refine pv_aald (k := 43) (n := 3) (r := (82 + 36 * i)) (pc := 18) (by decide) (Or.inl rfl) rfl (ix_in hi h3) (xi_at hi h3) (by omega) (fm_dec dtX10_image 10 rfl) ?_
    refine pv_aloadn (pc := 19) (n := 0) 0 rfl rfl (fm_dec dtX10_image 11 rfl) ?_
    refine pv_getR (k := 0) (j := 9) (ci := 10) (pc := 20) 46 rfl (by decide) pfl_X10_75 (by decide) rfl (by decide) (fm_dec dtX10_image 12 rfl) ?_
    refine pv_invV1 (k := (82 + 36 * i)) (d' := 1) (pc := 23) pcv_X10_360 (show 82 + 36 * i < 190 by omega) ((xi_kd h3).trans rfl) (Nat.le_of_ble_eq_true rfl) (by decide) (fm_dec dtX10_image 13 rfl) ?_
    refine s_im0 (xi_in h3) hI (fun M23 hI23 f23 => ?_)
    refine pv_then0 ?_
    refine pv_aloadn (pc := 26) (n := 0) 0 rfl rfl (fm_dec dtX10_image 14 rfl) ?_
    refine pv_dup (pc := 27) rfl (fm_dec dtX10_image 15 rfl) ?_
    refine pv_getI (k := 0) (j := 13) (ci := 10) (pc := 28) pfl_X10_129 (by decide) rfl (by decide) (fm_dec dtX10_image 16 rfl) ?_
    refine pv_iconst (pc := 31) (v := 1) (by decide) (fm_dec dtX10_image 17 rfl) ?_
    refine pv_iadd (pc := 32) (fm_dec dtX10_image 18 rfl) ?_
    refine pv_putI (k := 0) (j := 13) (ci := 10) (pc := 33) pfl_X10_129 (by decide) rfl (by decide) (fm_dec dtX10_image 19 rfl) ?_
    refine pv_aloadn (pc := 36) (n := 0) 0 rfl rfl (fm_dec dtX10_image 20 rfl) ?_
    refine pv_getI (k := 0) (j := 13) (ci := 10) (pc := 37) pfl_X10_129 (by decide) rfl (by decide) (fm_dec dtX10_image 21 rfl) ?_
    exact pv_ireturn (pc := 40) rfl (fm_dec dtX10_image 22 rfl) (hq h3 _ _ (by show (M23.1 0 13 + 1).toInt = _; rw [(f23 0 13 rfl).1]; exact i32_p1 hi (by omega)) rfl)
  · refine pv_iconst (pc := 8) (v := (-1)) (by decide) (fm_dec dtX10_image 4 rfl) ?_
    exact pv_ireturn (pc := 9) rfl (fm_dec dtX10_image 5 rfl) (hn (by have z3 : (3 : Int32).toInt = 3 := (by decide); rw [sc_lt] at hc5; omega))
set_option maxRecDepth 20000 in
theorem c_xrest {M : fmM} {Q : fmR → fmM → Prop} {i : Nat} (hI : scInv Tx invX M) (hi : (M.1 0 13).toInt = (i : Int)) (h4 : i ≤ 3) (hn : i = 0 → Q (.inl (some (.int (-1)))) M) (hq : 0 < i → ∀ (M' : fmM) (r : Int32), r.toInt = ((i - 1 : Nat) : Int) → M'.1 0 13 = r → Q (.inl (some (.int r))) M') : pvGood Tx 2 qX10_restore [.ref 0] M Q := by
  refine pvGood_of (Nat.le_of_ble_eq_true rfl) ?_
  show pvEv Tx 2 qX10_restore 0 [some (.ref 0)] [] M Q
  refine pv_aloadn (pc := 0) (n := 0) 0 rfl rfl (fm_dec dtX10_restore 0 rfl) ?_
  refine pv_getI (k := 0) (j := 13) (ci := 10) (pc := 1) pfl_X10_129 (by decide) rfl (by decide) (fm_dec dtX10_restore 1 rfl) ?_
  refine pv_if_gt (pc := 4) 9 (by decide) (fm_dec dtX10_restore 2 rfl) (fun hc4 => ?_) (fun hc4 => ?_)
  · have z0 : (0 : Int32).toInt = 0 := (by decide)
    have h0 : 0 < i := (by rw [sc_lt] at hc4; omega)
    have e1 : (M.1 0 13 - 1).toInt = ((i - 1 : Nat) : Int) := (by have z1 : (1 : Int32).toInt = 1 := (by decide); rw [sc_sub (by omega) (by omega)]; omega)
    have hI1 : scInv Tx invX (fmI M 0 13 (M.1 0 13 - 1)) := xInv.put hI ⟨by show (0 : Int) ≤ _; omega, by show _ ≤ (3 : Int); omega⟩
    refine pv_aloadn (pc := 9) (n := 0) 0 rfl rfl (fm_dec dtX10_restore 5 rfl) ?_
    refine pv_dup (pc := 10) rfl (fm_dec dtX10_restore 6 rfl) ?_
    refine pv_getI (k := 0) (j := 13) (ci := 10) (pc := 11) pfl_X10_129 (by decide) rfl (by decide) (fm_dec dtX10_restore 7 rfl) ?_
    refine pv_iconst (pc := 14) (v := 1) (by decide) (fm_dec dtX10_restore 8 rfl) ?_
    refine pv_isub (pc := 15) (fm_dec dtX10_restore 9 rfl) ?_
    refine pv_putI (k := 0) (j := 13) (ci := 10) (pc := 16) pfl_X10_129 (by decide) rfl (by decide) (fm_dec dtX10_restore 10 rfl) ?_
    refine pv_aloadn (pc := 19) (n := 0) 0 rfl rfl (fm_dec dtX10_restore 11 rfl) ?_
    refine pv_getR (k := 0) (j := 9) (ci := 10) (pc := 20) 46 rfl (by decide) pfl_X10_75 (by decide) rfl (by decide) (fm_dec dtX10_restore 12 rfl) ?_
    refine pv_aloadn (pc := 23) (n := 0) 0 rfl rfl (fm_dec dtX10_restore 13 rfl) ?_
    refine pv_getR (k := 0) (j := 10) (ci := 10) (pc := 24) 43 rfl (by decide) pfl_X10_79 (by decide) rfl (by decide) (fm_dec dtX10_restore 14 rfl) ?_
    refine pv_aloadn (pc := 27) (n := 0) 0 rfl rfl (fm_dec dtX10_restore 15 rfl) ?_
    refine pv_getI (k := 0) (j := 13) (ci := 10) (pc := 28) pfl_X10_129 (by decide) rfl (by decide) (fm_dec dtX10_restore 16 rfl) ?_
    refine pv_aald (k := 43) (n := 3) (r := (82 + 36 * (i - 1))) (pc := 31) (by decide) (Or.inl rfl) rfl (ix_in e1 (by omega)) (xi_at e1 (by omega)) (by omega) (fm_dec dtX10_restore 17 rfl) ?_
    refine pv_invV1 (k := 46) (d' := 1) (pc := 32) pcv_X10_360 (by decide) rfl (Nat.le_of_ble_eq_true rfl) (by decide) (fm_dec dtX10_restore 18 rfl) ?_
    refine s_im1 (xi_in (by omega)) hI1 (fun M32 hI32 f32 => ?_)
    refine pv_then0 ?_
    refine pv_aloadn (pc := 35) (n := 0) 0 rfl rfl (fm_dec dtX10_restore 19 rfl) ?_
    refine pv_iconst (pc := 36) (v := 0) (by decide) (fm_dec dtX10_restore 20 rfl) ?_
    refine pv_putI (k := 0) (j := 14) (ci := 10) (pc := 37) pfl_X10_132 (by decide) rfl (by decide) (fm_dec dtX10_restore 21 rfl) ?_
    refine pv_aloadn (pc := 40) (n := 0) 0 rfl rfl (fm_dec dtX10_restore 22 rfl) ?_
    refine pv_getR (k := 0) (j := 7) (ci := 10) (pc := 41) 34 rfl (by decide) pfl_X10_61 (by decide) rfl (by decide) (fm_dec dtX10_restore 23 rfl) ?_
    refine pv_invV0 (k := 34) (d' := 0) (pc := 44) pcv_X10_135 (by decide) rfl (Nat.le_of_ble_eq_true rfl) (by decide) (fm_dec dtX10_restore 24 rfl) ?_
    refine s_forget (xInv.put hI32 (scq_t _)) (fun M44 hI44 f44 => ?_)
    refine pv_then0 ?_
    refine pv_aloadn (pc := 47) (n := 0) 0 rfl rfl (fm_dec dtX10_restore 25 rfl) ?_
    refine pv_getI (k := 0) (j := 13) (ci := 10) (pc := 48) pfl_X10_129 (by decide) rfl (by decide) (fm_dec dtX10_restore 26 rfl) ?_
    exact pv_ireturn (pc := 51) rfl (fm_dec dtX10_restore 27 rfl) (hq h0 _ _ (by rw [(f44 0 13 rfl).1]; show (M32.1 0 13).toInt = _; rw [(f32 0 13 rfl).1]; exact e1) rfl)
  · refine pv_iconst (pc := 7) (v := (-1)) (by decide) (fm_dec dtX10_restore 3 rfl) ?_
    exact pv_ireturn (pc := 8) rfl (fm_dec dtX10_restore 4 rfl) (hn (by have z0 : (0 : Int32).toInt = 0 := (by decide); rw [sc_lt] at hc4; omega))
set_option maxRecDepth 20000 in
theorem c_mimage {M : fmM} {Q : fmR → fmM → Prop} {i : Nat} (hi : (M.1 0 34).toInt = (i : Int)) (h4 : i ≤ 3) (hn : i = 3 → ∀ M' : fmM, M'.1 0 34 = M.1 0 34 → Q (.inl (some (.int (-1)))) M') (hq : i < 3 → ∀ (M' : fmM) (r : Int32), r.toInt = ((i + 1 : Nat) : Int) → M'.1 0 34 = r → Q (.inl (some (.int r))) M') : pvGood Tm 2 qX11_image [.ref 0] M Q := by
  refine pvGood_of (Nat.le_of_ble_eq_true rfl) ?_
  show pvEv Tm 2 qX11_image 0 [some (.ref 0)] [] M Q
  refine pv_aloadn (pc := 0) (n := 0) 0 rfl rfl (fm_dec dtX11_image 0 rfl) ?_
  refine pv_iconst (pc := 1) (v := 0) (by decide) (fm_dec dtX11_image 1 rfl) ?_
  refine pv_putI (k := 0) (j := 0) (ci := 11) (pc := 2) pfl_X11_101 (by decide) rfl (by decide) (fm_dec dtX11_image 2 rfl) ?_
  refine pv_aloadn (pc := 5) (n := 0) 0 rfl rfl (fm_dec dtX11_image 3 rfl) ?_
  refine pv_getI (k := 0) (j := 34) (ci := 11) (pc := 6) pfl_X11_206 (by decide) rfl (by decide) (fm_dec dtX11_image 4 rfl) ?_
  refine pv_iconst (pc := 9) (v := 3) (by decide) (fm_dec dtX11_image 5 rfl) ?_
  refine pv_icmp_ne (pc := 10) 15 (by decide) (fm_dec dtX11_image 6 rfl) (fun hc10 => ?_) (fun hc10 => ?_)
  · have z3 : (3 : Int32).toInt = 3 := (by decide)
    have h3 : i < 3 := (by have h9 : ¬ i = 3 := (fun h9 => hc10 (i32_ext (by show (M.1 0 34).toInt = _; omega))); omega)
    refine pv_aloadn (pc := 15) (n := 0) 0 rfl rfl (fm_dec dtX11_image 9 rfl) ?_
    refine pv_aloadn (pc := 16) (n := 0) 0 rfl rfl (fm_dec dtX11_image 10 rfl) ?_
    refine pv_getR (k := 0) (j := 30) (ci := 11) (pc := 17) 26 rfl (by decide) pfl_X11_70 (by decide) rfl (by decide) (fm_dec dtX11_image 11 rfl) ?_
    refine pv_aloadn (pc := 20) (n := 0) 0 rfl rfl (fm_dec dtX11_image 12 rfl) ?_
    refine pv_getI (k := 0) (j := 34) (ci := 11) (pc := 21) pfl_X11_206 (by decide) rfl (by decide) (fm_dec dtX11_image 13 rfl) ?_
    refine pv_aald (k := 26) (n := 3) (r := (519 + i)) (pc := 24) (by decide) (Or.inr (Or.inr rfl)) rfl (rw_kept.inb hi h3) (rw_kept.at hi h3) (rw_kept.2.2.2 i h3).2.1 (fm_dec dtX11_image 14 rfl) ?_
    refine pv_iconst (pc := 25) (v := 0) (by decide) (fm_dec dtX11_image 15 rfl) ?_
    refine pv_invV2 (k := 0) (d' := 1) (pc := 26) pcv_X11_443 (by decide) rfl (Nat.le_of_ble_eq_true rfl) (by decide) (fm_dec dtX11_image 16 rfl) ?_
    refine c_putsAll0 h3 (fun M26 p26 => ?_)
    refine pv_then0 ?_
    refine pv_aloadn (pc := 29) (n := 0) 0 rfl rfl (fm_dec dtX11_image 17 rfl) ?_
    refine pv_dup (pc := 30) rfl (fm_dec dtX11_image 18 rfl) ?_
    refine pv_getI (k := 0) (j := 34) (ci := 11) (pc := 31) pfl_X11_206 (by decide) rfl (by decide) (fm_dec dtX11_image 19 rfl) ?_
    refine pv_iconst (pc := 34) (v := 1) (by decide) (fm_dec dtX11_image 20 rfl) ?_
    refine pv_iadd (pc := 35) (fm_dec dtX11_image 21 rfl) ?_
    refine pv_putI (k := 0) (j := 34) (ci := 11) (pc := 36) pfl_X11_206 (by decide) rfl (by decide) (fm_dec dtX11_image 22 rfl) ?_
    refine pv_aloadn (pc := 39) (n := 0) 0 rfl rfl (fm_dec dtX11_image 23 rfl) ?_
    refine pv_getI (k := 0) (j := 34) (ci := 11) (pc := 40) pfl_X11_206 (by decide) rfl (by decide) (fm_dec dtX11_image 24 rfl) ?_
    exact pv_ireturn (pc := 43) rfl (fm_dec dtX11_image 25 rfl) (hq h3 _ _ (by show (M26.1 0 34 + 1).toInt = _; rw [p26.2.1 0 34 (by omega) (by decide)]; exact i32_p1 hi (by omega)) rfl)
  · refine pv_iconst (pc := 13) (v := (-1)) (by decide) (fm_dec dtX11_image 7 rfl) ?_
    exact pv_ireturn (pc := 14) rfl (fm_dec dtX11_image 8 rfl) (hn (by have z3 : (3 : Int32).toInt = 3 := (by decide); have h9 : (M.1 0 34).toInt = (3 : Int32).toInt := congrArg Int32.toInt hc10; omega) _ rfl)
theorem sl_34 : ∀ t, t < 239 → ¬ ((sl t).1 = 0 ∧ (sl t).2 = 34) := by decide +kernel
set_option maxRecDepth 20000 in
theorem c_mrest {M : fmM} {Q : fmR → fmM → Prop} {i : Nat} (hi : (M.1 0 34).toInt = (i : Int)) (h4 : i ≤ 3) (hn : i = 0 → ∀ M' : fmM, M'.1 0 34 = M.1 0 34 → Q (.inl (some (.int (-1)))) M') (hq : 0 < i → ∀ (M' : fmM) (r : Int32), r.toInt = ((i - 1 : Nat) : Int) → M'.1 0 34 = r → Q (.inl (some (.int r))) M') : pvGood Tm 2 qX11_restore [.ref 0] M Q := by
  refine pvGood_of (Nat.le_of_ble_eq_true rfl) ?_
  show pvEv Tm 2 qX11_restore 0 [some (.ref 0)] [] M Q
  refine pv_aloadn (pc := 0) (n := 0) 0 rfl rfl (fm_dec dtX11_restore 0 rfl) ?_
  refine pv_iconst (pc := 1) (v := 0) (by decide) (fm_dec dtX11_restore 1 rfl) ?_
  refine pv_putI (k := 0) (j := 0) (ci := 11) (pc := 2) pfl_X11_101 (by decide) rfl (by decide) (fm_dec dtX11_restore 2 rfl) ?_
  refine pv_aloadn (pc := 5) (n := 0) 0 rfl rfl (fm_dec dtX11_restore 3 rfl) ?_
  refine pv_getI (k := 0) (j := 34) (ci := 11) (pc := 6) pfl_X11_206 (by decide) rfl (by decide) (fm_dec dtX11_restore 4 rfl) ?_
  refine pv_if_ne (pc := 9) 14 (by decide) (fm_dec dtX11_restore 5 rfl) (fun hc9 => ?_) (fun hc9 => ?_)
  · have hi0 : ((fmI M 0 0 0).1 0 34).toInt = (i : Int) := hi
    have h0 : 0 < i := (by have h9 : ¬ i = 0 := (fun h9 => hc9 (i32_ext (by show (M.1 0 34).toInt = _; rw [hi, h9]; decide))); omega)
    have e1 : ((fmI M 0 0 0).1 0 34 - 1).toInt = ((i - 1 : Nat) : Int) := (by have z1 : (1 : Int32).toInt = 1 := (by decide); rw [sc_sub (by omega) (by omega)]; omega)
    refine pv_aloadn (pc := 14) (n := 0) 0 rfl rfl (fm_dec dtX11_restore 8 rfl) ?_
    refine pv_dup (pc := 15) rfl (fm_dec dtX11_restore 9 rfl) ?_
    refine pv_getI (k := 0) (j := 34) (ci := 11) (pc := 16) pfl_X11_206 (by decide) rfl (by decide) (fm_dec dtX11_restore 10 rfl) ?_
    refine pv_iconst (pc := 19) (v := 1) (by decide) (fm_dec dtX11_restore 11 rfl) ?_
    refine pv_isub (pc := 20) (fm_dec dtX11_restore 12 rfl) ?_
    refine pv_putI (k := 0) (j := 34) (ci := 11) (pc := 21) pfl_X11_206 (by decide) rfl (by decide) (fm_dec dtX11_restore 13 rfl) ?_
    refine pv_aloadn (pc := 24) (n := 0) 0 rfl rfl (fm_dec dtX11_restore 14 rfl) ?_
    refine pv_aloadn (pc := 25) (n := 0) 0 rfl rfl (fm_dec dtX11_restore 15 rfl) ?_
    refine pv_getR (k := 0) (j := 30) (ci := 11) (pc := 26) 26 rfl (by decide) pfl_X11_70 (by decide) rfl (by decide) (fm_dec dtX11_restore 16 rfl) ?_
    refine pv_aloadn (pc := 29) (n := 0) 0 rfl rfl (fm_dec dtX11_restore 17 rfl) ?_
    refine pv_getI (k := 0) (j := 34) (ci := 11) (pc := 30) pfl_X11_206 (by decide) rfl (by decide) (fm_dec dtX11_restore 18 rfl) ?_
    refine pv_aald (k := 26) (n := 3) (r := (519 + (i - 1))) (pc := 33) (by decide) (Or.inr (Or.inr rfl)) rfl (rw_kept.inb e1 (by omega)) (rw_kept.at e1 (by omega)) (rw_kept.2.2.2 (i - 1) (by omega)).2.1 (fm_dec dtX11_restore 19 rfl) ?_
    refine pv_iconst (pc := 34) (v := 1) (by decide) (fm_dec dtX11_restore 20 rfl) ?_
    refine pv_invV2 (k := 0) (d' := 1) (pc := 35) pcv_X11_443 (by decide) rfl (Nat.le_of_ble_eq_true rfl) (by decide) (fm_dec dtX11_restore 21 rfl) ?_
    refine c_putsAll1 (i := i - 1) (by omega) (fun M35 p35 => ?_)
    refine pv_then0 ?_
    refine pv_aloadn (pc := 38) (n := 0) 0 rfl rfl (fm_dec dtX11_restore 22 rfl) ?_
    refine pv_iconst (pc := 39) (v := 0) (by decide) (fm_dec dtX11_restore 23 rfl) ?_
    refine pv_putI (k := 0) (j := 33) (ci := 11) (pc := 40) pfl_X11_203 (by decide) rfl (by decide) (fm_dec dtX11_restore 24 rfl) ?_
    refine pv_aloadn (pc := 43) (n := 0) 0 rfl rfl (fm_dec dtX11_restore 25 rfl) ?_
    refine pv_getI (k := 0) (j := 34) (ci := 11) (pc := 44) pfl_X11_206 (by decide) rfl (by decide) (fm_dec dtX11_restore 26 rfl) ?_
    exact pv_ireturn (pc := 47) rfl (fm_dec dtX11_restore 27 rfl) (hq h0 _ _ (by show (M35.1 0 34).toInt = _; rw [p35.2.1 0 34 (fun t h9 => sl_34 t h9) (by decide)]; exact e1) rfl)
  · refine pv_iconst (pc := 12) (v := (-1)) (by decide) (fm_dec dtX11_restore 6 rfl) ?_
    exact pv_ireturn (pc := 13) rfl (fm_dec dtX11_restore 7 rfl) (hn (by have h9 : (M.1 0 34).toInt = (0 : Int32).toInt := congrArg Int32.toInt hc9; have z0 : (0 : Int32).toInt = 0 := (by decide); omega) _ rfl)
end
-- P 18r
section
def mdw (M' : fmM) (D : dD) : Prop := (M'.1 4 0).toInt = (D.1 : Int) ∧ (M'.1 4 1).toInt = (D.2.2.1 : Int) ∧ (∀ k, 2 ≤ k → k ≤ 5 → (M'.1 4 k).toInt = D.2.2.2.2 k) ∧ (∀ i, i < D.1 → ∀ j, j < 6 → (M'.1 (35 + i) j).toInt = D.2.1 i j) ∧ ∀ i, i < D.2.2.1 → ∀ j, j < 3 → (M'.1 (67 + i) j).toInt = D.2.2.2.1 i j
-- THE CHAIN, exactly
theorem bc8 : ∀ w, w < 256 → bcF (nI w) = nI (pop8 w) := by decide +kernel
def onF (b : Int32) : Int32 := 0 + (b >>> ((0 : Int32) &&& 31) &&& 1) + (b >>> ((1 : Int32) &&& 31) &&& 1) + (b >>> ((2 : Int32) &&& 31) &&& 1) + (b >>> ((3 : Int32) &&& 31) &&& 1) + (b >>> ((4 : Int32) &&& 31) &&& 1) + (b >>> ((5 : Int32) &&& 31) &&& 1) + (b >>> ((6 : Int32) &&& 31) &&& 1) + (b >>> ((7 : Int32) &&& 31) &&& 1)
theorem on8 : ∀ w, w < 256 → onF (nI w) = nI (pop8 w) := by decide +kernel
theorem full8 : ∀ w, w < 256 → pop8 w = 8 → ∀ k, k < 8 → w.testBit k = true := by decide +kernel
theorem has8z : ∀ w, w < 256 → ∀ k, k < 8 → ((nI w >>> (nI k &&& 31) &&& 1) = (0 : Int32) ↔ w.testBit k = false) := by decide +kernel
theorem pop8_1 : ∀ k, k < 8 → pop8 (1 <<< k) = 1 := by decide +kernel
def chS (b : Nat → Int) : Nat → Nat → Nat → Nat × Nat
  | 0, s, l => (s, l)
  | f + 1, s, l => if b l < 0 then (s, l) else if s.testBit (b l).toNat then (s, l) else chS b f (s ||| 1 <<< (b l).toNat) (b l).toNat
theorem ch_no {b : Nat → Int} {m s l : Nat} (h : b l < 0) : chS b m s l = (s, l) := by
  cases m with
  | zero => rfl
  | succ f => exact if_pos h
theorem ch_has {b : Nat → Int} {m s l k : Nat} (h : b l = (k : Int)) (ht : s.testBit k = true) : chS b m s l = (s, l) := by
  cases m with
  | zero => rfl
  | succ f =>
    show (if b l < 0 then (s, l) else if s.testBit (b l).toNat then (s, l) else chS b f (s ||| 1 <<< (b l).toNat) (b l).toNat) = (s, l)
    rw [if_neg (by omega), h, Int.toNat_natCast, if_pos ht]
theorem ch_go {b : Nat → Int} {f s l k : Nat} (h : b l = (k : Int)) (ht : s.testBit k = false) : chS b (f + 1) s l = chS b f (s ||| 1 <<< k) k := by
  show (if b l < 0 then (s, l) else if s.testBit (b l).toNat then (s, l) else chS b f (s ||| 1 <<< (b l).toNat) (b l).toNat) = _
  rw [if_neg (by omega), h, Int.toNat_natCast, if_neg (by rw [ht]; decide)]
def chR (p : Nat × Nat) (what : Int32) : Int32 := if what = 0 then nI (pop8 p.1) else nI p.2
theorem chR_s {p : Nat × Nat} {what : Int32} (h : what = 0) : chR p what = nI (pop8 p.1) := if_pos h
theorem chR_l {p : Nat × Nat} {what : Int32} (h : ¬ what = 0) : chR p what = nI p.2 := if_neg h
def chB (D : dD) : Nat → Int := fun i => D.2.1 i 5
def chV (D : dD) (x what : Int32) : Int32 := chR (chS (chB D) 7 (1 <<< x.toInt.toNat) x.toInt.toNat) what
theorem by_d {D : dD} {l : Nat} {x : Int32} (hD : dOk D) (hl : l < D.1) (hx : x.toInt = chB D l) (h : ¬ chB D l < 0) : ∃ k : Nat, k < D.1 ∧ k < 8 ∧ chB D l = (k : Int) ∧ x = nI k := by
  have h1 := (hD.2.2.1 l hl).2.2.2.2.2
  have h8 := hD.1
  have e : D.2.1 l 5 = chB D l := rfl
  rw [e] at h1
  exact ⟨(chB D l).toNat, by omega, by omega, by omega, nI_is (by omega) (by omega)⟩
theorem glueN {A : Prop} {v : fmR} {r r2 : fmR} {M : fmM} (hv : ∃ x, v = .inl x) (h : (A ∧ r = v) ∨ (¬ A ∧ r = .inr fmNSE)) (h2 : (A ∧ r2 = v ∧ M.1 0 0 = 0) ∨ (¬ A ∧ M.1 0 0 = 1)) : mtI 0 1 r r2 M := by
  obtain ⟨x, rfl⟩ := hv
  rcases h with ⟨a, rfl⟩ | ⟨a, rfl⟩ <;> rcases h2 with ⟨a2, e2, t⟩ | ⟨a2, t⟩
  · exact ⟨t, e2⟩
  · exact absurd a a2
  · exact absurd a2 a
  · exact ⟨fun h => absurd h (by decide), fun _ => t⟩
theorem glueL {A B : Prop} {v : fmR} {r r2 : fmR} {M : fmM} (hv : ∃ x, v = .inl x) (h : (A ∧ B ∧ r = v) ∨ (¬ A ∧ r = .inr fmNSE) ∨ (A ∧ ¬ B ∧ r = .inr fmIAE)) (h2 : (A ∧ B ∧ r2 = v ∧ M.1 0 0 = 0) ∨ (¬ A ∧ M.1 0 0 = 1) ∨ (A ∧ ¬ B ∧ M.1 0 0 = 2)) : mtI 2 1 r r2 M := by
  obtain ⟨x, rfl⟩ := hv
  rcases h with ⟨a, b, rfl⟩ | ⟨a, rfl⟩ | ⟨a, b, rfl⟩ <;> rcases h2 with ⟨a2, b2, e2, t⟩ | ⟨a2, t⟩ | ⟨a2, b2, t⟩
  · exact ⟨t, e2⟩
  · exact absurd a a2
  · exact absurd b b2
  · exact absurd a2 a
  · exact ⟨fun h => absurd h (by decide), fun _ => t⟩
  · exact absurd a2 a
  · exact absurd b2 b
  · exact absurd a a2
  · exact ⟨fun _ => t, fun h => absurd h (by decide)⟩
/-- a life that is told -/
def inL (D : dD) (x : Int32) : Prop := 0 ≤ x.toInt ∧ x.toInt < (D.1 : Int)
set_option maxRecDepth 20000 in
theorem c_needL {M : fmM} {Q : fmR → fmM → Prop} {x : Int32} (ht : 0 ≤ x.toInt → x.toInt < (M.1 3 9).toInt → Q (.inl none) M) (hf : ¬ (0 ≤ x.toInt ∧ x.toInt < (M.1 3 9).toInt) → Q (.inr fmNSE) (fmI M 0 15 (M.1 0 15 + 1))) : pvGood Tx 0 qX10_needLife [.ref 0, .int x] M Q := by
  refine pvGood_of (Nat.le_of_ble_eq_true rfl) ?_
  show pvEv Tx 0 qX10_needLife 0 [some (.ref 0), some (.int x)] [] M Q
  have z0 : (0 : Int32).toInt = 0 := (by decide)
  refine pv_iloadn (pc := 0) (n := 1) 1 rfl rfl (fm_dec dtX10_needLife 0 rfl) ?_
  refine pv_if_lt (pc := 1) 15 (by decide) (fm_dec dtX10_needLife 1 rfl) (fun hc1 => ?_) (fun hc1 => ?_)
  · refine pv_aloadn (pc := 15) (n := 0) 0 rfl rfl (fm_dec dtX10_needLife 7 rfl) ?_
    refine pv_dup (pc := 16) rfl (fm_dec dtX10_needLife 8 rfl) ?_
    refine pv_getI (k := 0) (j := 15) (ci := 10) (pc := 17) pfl_X10_363 (by decide) rfl (by decide) (fm_dec dtX10_needLife 9 rfl) ?_
    refine pv_iconst (pc := 20) (v := 1) (by decide) (fm_dec dtX10_needLife 10 rfl) ?_
    refine pv_iadd (pc := 21) (fm_dec dtX10_needLife 11 rfl) ?_
    refine pv_putI (k := 0) (j := 15) (ci := 10) (pc := 22) pfl_X10_363 (by decide) rfl (by decide) (fm_dec dtX10_needLife 12 rfl) ?_
    exact pv_thrN (pc := 25) pvK_10 (fm_dec dtX10_needLife 13 rfl) (fm_dec dtX10_needLife 14 rfl) (fm_dec dtX10_needLife 15 rfl) (fm_dec dtX10_needLife 16 rfl) (fm_dec dtX10_needLife 17 rfl) (hf (by intro h9; first | (rw [sc_lt] at hc1; omega) | (rw [sc_lt] at hc12; exact hc12 h9.2)))
  · refine pv_iloadn (pc := 4) (n := 1) 1 rfl rfl (fm_dec dtX10_needLife 2 rfl) ?_
    refine pv_aloadn (pc := 5) (n := 0) 0 rfl rfl (fm_dec dtX10_needLife 3 rfl) ?_
    refine pv_getR (k := 0) (j := 1) (ci := 10) (pc := 6) 3 rfl (by decide) pfl_X10_19 (by decide) rfl (by decide) (fm_dec dtX10_needLife 4 rfl) ?_
    refine pv_getI (k := 3) (j := 9) (ci := 8) (pc := 9) pfl_X10_138 (by decide) rfl (by decide) (fm_dec dtX10_needLife 5 rfl) ?_
    refine pv_icmp_lt (pc := 12) 36 (by decide) (fm_dec dtX10_needLife 6 rfl) (fun hc12 => ?_) (fun hc12 => ?_)
    · exact pv_return (pc := 36) rfl (fm_dec dtX10_needLife 18 rfl) (ht (by rw [sc_lt] at hc1; omega) (by rw [sc_lt] at hc12; exact hc12))
    · refine pv_aloadn (pc := 15) (n := 0) 0 rfl rfl (fm_dec dtX10_needLife 7 rfl) ?_
      refine pv_dup (pc := 16) rfl (fm_dec dtX10_needLife 8 rfl) ?_
      refine pv_getI (k := 0) (j := 15) (ci := 10) (pc := 17) pfl_X10_363 (by decide) rfl (by decide) (fm_dec dtX10_needLife 9 rfl) ?_
      refine pv_iconst (pc := 20) (v := 1) (by decide) (fm_dec dtX10_needLife 10 rfl) ?_
      refine pv_iadd (pc := 21) (fm_dec dtX10_needLife 11 rfl) ?_
      refine pv_putI (k := 0) (j := 15) (ci := 10) (pc := 22) pfl_X10_363 (by decide) rfl (by decide) (fm_dec dtX10_needLife 12 rfl) ?_
      exact pv_thrN (pc := 25) pvK_10 (fm_dec dtX10_needLife 13 rfl) (fm_dec dtX10_needLife 14 rfl) (fm_dec dtX10_needLife 15 rfl) (fm_dec dtX10_needLife 16 rfl) (fm_dec dtX10_needLife 17 rfl) (hf (by intro h9; first | (rw [sc_lt] at hc1; omega) | (rw [sc_lt] at hc12; exact hc12 h9.2)))
theorem c_bits8 {M : fmM} {Q : fmR → fmM → Prop} {w : Nat} (hw : w < 256) (hq : Q (.inl (some (.int (nI (pop8 w))))) M) : pvGood Tx 0 qJ6_bitCount_0f7a4 [.int (nI w)] M Q := c_bits (by rw [bc8 w hw]; exact hq)
set_option maxRecDepth 20000 in
theorem xc_end {Q : fmR → fmM → Prop} {M : fmM} {li wh : Int32} {w l : Nat} {v5 v6 : Option Value} (hw : w < 256) (hq : Q (.inl (some (.int (chR (w, l) wh)))) M) : pvEv Tx 1 qX10_chain 87 [some (.ref 0), some (.int li), some (.int wh), some (.int (nI w)), some (.int (nI l)), v5, v6] [] M Q := by
  refine pv_iloadn (pc := 87) (n := 2) 2 rfl rfl (fm_dec dtX10_chain 49 rfl) ?_
  refine pv_if_ne (pc := 88) 98 (by decide) (fm_dec dtX10_chain 50 rfl) (fun hc88 => ?_) (fun hc88 => ?_)
  · refine pv_iload (pc := 98) (i := 4) rfl (fm_dec dtX10_chain 54 rfl) ?_
    exact pv_ireturn (pc := 100) rfl (fm_dec dtX10_chain 55 rfl) (by rw [chR_l hc88] at hq; exact hq)
  · refine pv_iloadn (pc := 91) (n := 3) 3 rfl rfl (fm_dec dtX10_chain 51 rfl) ?_
    refine pv_iS1 (d' := 0) (pc := 92) pcs_X10_182 (Nat.le_of_ble_eq_true rfl) (by decide) (fm_dec dtX10_chain 52 rfl) ?_
    refine c_bits8 hw ?_
    refine pv_then1 ?_
    refine pv_goto (pc := 95) 100 (by decide) (fm_dec dtX10_chain 53 rfl) ?_
    exact pv_ireturn (pc := 100) rfl (fm_dec dtX10_chain 55 rfl) (by rw [chR_s hc88] at hq; exact hq)
set_option maxRecDepth 20000 in
theorem xc_loop {Q : fmR → fmM → Prop} {M : fmM} {li wh : Int32} {D : dD} (hD : dOk D) (hX : xdw 3 M D) : ∀ (m : Nat) (w l : Nat) (i : Int32) (v6 : Option Value), w < 256 → 8 - pop8 w = m → l < D.1 → i.toInt + m = 7 → Q (.inl (some (.int (chR (chS (chB D) m w l) wh)))) M → pvEv Tx 1 qX10_chain 22 [some (.ref 0), some (.int li), some (.int wh), some (.int (nI w)), some (.int (nI l)), some (.int i), v6] [] M Q := by
  intro m
  induction m using Nat.strongRecOn with
  | _ m ih =>
    intro w l i v6 hw hm hl hi hq
    refine pv_iload (pc := 22) (i := 5) rfl (fm_dec dtX10_chain 16 rfl) ?_
    refine pv_bipush (pc := 24) (v := 8) (by decide) (fm_dec dtX10_chain 17 rfl) ?_
    refine pv_icmp_ge (pc := 26) 87 (by decide) (fm_dec dtX10_chain 18 rfl) (fun hc26 => by exfalso; rw [sc_le] at hc26; have z8 : (8 : Int32).toInt = 8 := (by decide); have h9 := pop8_le w hw; omega) (fun _ => ?_)
    have d8 := hD.1
    have hl8 : l < 8 := (by omega)
    have hl9 : (nI l).toInt = (l : Int) := nI_toInt (by omega)
    have hx9 : (M.1 9 l).toInt = chB D l := hX.2.1 l hl 5 (by decide)
    have z0 : (0 : Int32).toInt = 0 := (by decide)
    refine pv_aloadn (pc := 29) (n := 0) 0 rfl rfl (fm_dec dtX10_chain 19 rfl) ?_
    refine pv_getR (k := 0) (j := 1) (ci := 10) (pc := 30) 3 rfl (by decide) pfl_X10_19 (by decide) rfl (by decide) (fm_dec dtX10_chain 20 rfl) ?_
    refine pv_getR (k := 3) (j := 5) (ci := 8) (pc := 33) 9 rfl (by decide) pfl_X10_222 (by decide) rfl (by decide) (fm_dec dtX10_chain 21 rfl) ?_
    refine pv_iload (pc := 36) (i := 4) rfl (fm_dec dtX10_chain 22 rfl) ?_
    refine pv_iald (k := 9) (n := 8) (pc := 38) (by decide) rfl rfl (ix_in hl9 hl8) (fm_dec dtX10_chain 23 rfl) ?_
    rw [i32_cl hl9]
    refine pv_istore (pc := 39) (i := 6) (by decide) rfl (fm_dec dtX10_chain 24 rfl) ?_
    dsimp only [List.set_cons_zero, List.set_cons_succ]
    refine pv_iload (pc := 41) (i := 6) rfl (fm_dec dtX10_chain 25 rfl) ?_
    refine pv_if_lt (pc := 43) 87 (by decide) (fm_dec dtX10_chain 26 rfl) (fun hc43 => ?_) (fun hc43 => ?_)
    · have e5 : chS (chB D) m w l = (w, l) := ch_no (by rw [sc_lt] at hc43; omega)
      rw [e5] at hq
      exact xc_end hw hq
    · obtain ⟨k, hk, hk8, hkb, hkx⟩ := by_d hD hl hx9 (by rw [sc_lt] at hc43; omega)
      rw [hkx]
      refine pv_iload (pc := 46) (i := 6) rfl (fm_dec dtX10_chain 27 rfl) ?_
      refine pv_aloadn (pc := 48) (n := 0) 0 rfl rfl (fm_dec dtX10_chain 28 rfl) ?_
      refine pv_getR (k := 0) (j := 1) (ci := 10) (pc := 49) 3 rfl (by decide) pfl_X10_19 (by decide) rfl (by decide) (fm_dec dtX10_chain 29 rfl) ?_
      refine pv_getI (k := 3) (j := 9) (ci := 8) (pc := 52) pfl_X10_138 (by decide) rfl (by decide) (fm_dec dtX10_chain 30 rfl) ?_
      refine pv_icmp_ge (pc := 55) 87 (by decide) (fm_dec dtX10_chain 31 rfl) (fun hc55 => by exfalso; rw [sc_le] at hc55; have h9 : (M.1 3 9).toInt = (D.1 : Int) := hX.1.1; have h8 : (nI k).toInt = (k : Int) := nI_toInt (by omega); omega) (fun _ => ?_)
      refine pv_iloadn (pc := 58) (n := 3) 3 rfl rfl (fm_dec dtX10_chain 32 rfl) ?_
      refine pv_iload (pc := 59) (i := 6) rfl (fm_dec dtX10_chain 33 rfl) ?_
      refine pv_ishr (pc := 61) (fm_dec dtX10_chain 34 rfl) ?_
      refine pv_iconst (pc := 62) (v := 1) (by decide) (fm_dec dtX10_chain 35 rfl) ?_
      refine pv_iand (pc := 63) (fm_dec dtX10_chain 36 rfl) ?_
      refine pv_if_eq (pc := 64) 70 (by decide) (fm_dec dtX10_chain 37 rfl) (fun hc64 => ?_) (fun hc64 => ?_)
      · refine pv_iloadn (pc := 70) (n := 3) 3 rfl rfl (fm_dec dtX10_chain 39 rfl) ?_
        refine pv_iconst (pc := 71) (v := 1) (by decide) (fm_dec dtX10_chain 40 rfl) ?_
        refine pv_iload (pc := 72) (i := 6) rfl (fm_dec dtX10_chain 41 rfl) ?_
        refine pv_ishl (pc := 74) (fm_dec dtX10_chain 42 rfl) ?_
        refine pv_ior (pc := 75) (fm_dec dtX10_chain 43 rfl) ?_
        refine pv_istoren (pc := 76) (n := 3) 3 rfl (by decide) rfl (fm_dec dtX10_chain 44 rfl) ?_
        dsimp only [List.set_cons_zero, List.set_cons_succ]
        refine pv_iload (pc := 77) (i := 6) rfl (fm_dec dtX10_chain 45 rfl) ?_
        refine pv_istore (pc := 79) (i := 4) (by decide) rfl (fm_dec dtX10_chain 46 rfl) ?_
        dsimp only [List.set_cons_zero, List.set_cons_succ]
        refine pv_iincc (pc := 81) 5 1 (by decide) rfl (by decide) rfl (fm_dec dtX10_chain 47 rfl) ?_
        dsimp only [List.set_cons_zero, List.set_cons_succ]
        refine pv_goto (pc := 84) 22 (by decide) (fm_dec dtX10_chain 48 rfl) ?_
        have ht : w.testBit k = false := (has8z w hw k hk8).mp hc64
        have hp := pop8_add w hw k hk8 ht
        have hle := pop8_le _ hp.2
        obtain ⟨f, rfl⟩ : ∃ f, m = f + 1 := ⟨m - 1, by omega⟩
        rw [ch_go hkb ht] at hq
        rw [or8 w hw k hk8]
        exact ih f (by omega) (w ||| 1 <<< k) k (i + 1) _ hp.2 (by omega) hk (by have h9 : (i + 1).toInt = i.toInt + 1 := (by have z1 : (1 : Int32).toInt = 1 := (by decide); rw [sc_add (by omega) (by omega)]; omega); omega) hq
      · refine pv_goto (pc := 67) 87 (by decide) (fm_dec dtX10_chain 38 rfl) ?_
        have ht : w.testBit k = true := (by cases h9 : w.testBit k with | true => rfl | false => exact absurd ((has8z w hw k hk8).mpr h9) hc64)
        have e5 : chS (chB D) m w l = (w, l) := ch_has hkb ht
        rw [e5] at hq
        exact xc_end hw hq
set_option maxRecDepth 20000 in
theorem c_xchain {M : fmM} {Q : fmR → fmM → Prop} {li wh : Int32} {D : dD} (hD : dOk D) (hX : xdw 3 M D) (hn1 : ¬ inL D li → Q (.inr fmNSE) (fmI M 0 15 (M.1 0 15 + 1))) (hn2 : inL D li → ¬ inW wh 0 1 → Q (.inr fmIAE) (fmI M 0 16 (M.1 0 16 + 1))) (hq : inL D li → inW wh 0 1 → Q (.inl (some (.int (chV D li wh)))) M) : pvGood Tx 1 qX10_chain [.ref 0, .int li, .int wh] M Q := by
  refine pvGood_of (Nat.le_of_ble_eq_true rfl) ?_
  show pvEv Tx 1 qX10_chain 0 [some (.ref 0), some (.int li), some (.int wh), none, none, none, none] [] M Q
  have hl9 : (M.1 3 9).toInt = (D.1 : Int) := hX.1.1
  have d8 := hD.1
  refine pv_aloadn (pc := 0) (n := 0) 0 rfl rfl (fm_dec dtX10_chain 0 rfl) ?_
  refine pv_iloadn (pc := 1) (n := 1) 1 rfl rfl (fm_dec dtX10_chain 1 rfl) ?_
  refine pv_invV1 (k := 0) (d' := 0) (pc := 2) pcv_X10_197 (by decide) rfl (Nat.le_of_ble_eq_true rfl) (by decide) (fm_dec dtX10_chain 2 rfl) ?_
  refine c_needL (fun h2a h2b => ?_) (fun h2 => ?_)
  · refine pv_then0 ?_
    refine pv_aloadn (pc := 5) (n := 0) 0 rfl rfl (fm_dec dtX10_chain 3 rfl) ?_
    refine pv_iloadn (pc := 6) (n := 2) 2 rfl rfl (fm_dec dtX10_chain 4 rfl) ?_
    refine pv_iconst (pc := 7) (v := 0) (by decide) (fm_dec dtX10_chain 5 rfl) ?_
    refine pv_iconst (pc := 8) (v := 1) (by decide) (fm_dec dtX10_chain 6 rfl) ?_
    refine pv_invV3 (k := 0) (d' := 0) (pc := 9) pcv_X10_169 (by decide) rfl (Nat.le_of_ble_eq_true rfl) (by decide) (fm_dec dtX10_chain 7 rfl) ?_
    refine c_needW (fun h9a h9b => ?_) (fun h9 => ?_)
    · refine pv_then0 ?_
      refine pv_iconst (pc := 12) (v := 1) (by decide) (fm_dec dtX10_chain 8 rfl) ?_
      refine pv_iloadn (pc := 13) (n := 1) 1 rfl rfl (fm_dec dtX10_chain 9 rfl) ?_
      refine pv_ishl (pc := 14) (fm_dec dtX10_chain 10 rfl) ?_
      refine pv_istoren (pc := 15) (n := 3) 3 rfl (by decide) rfl (fm_dec dtX10_chain 11 rfl) ?_
      dsimp only [List.set_cons_zero, List.set_cons_succ]
      refine pv_iloadn (pc := 16) (n := 1) 1 rfl rfl (fm_dec dtX10_chain 12 rfl) ?_
      refine pv_istore (pc := 17) (i := 4) (by decide) rfl (fm_dec dtX10_chain 13 rfl) ?_
      dsimp only [List.set_cons_zero, List.set_cons_succ]
      refine pv_iconst (pc := 19) (v := 0) (by decide) (fm_dec dtX10_chain 14 rfl) ?_
      refine pv_istore (pc := 20) (i := 5) (by decide) rfl (fm_dec dtX10_chain 15 rfl) ?_
      dsimp only [List.set_cons_zero, List.set_cons_succ]
      have hn : inL D li := ⟨h2a, by omega⟩
      obtain ⟨k, hk⟩ : ∃ k : Nat, li.toInt = (k : Int) := ⟨li.toInt.toNat, by omega⟩
      have ek : li.toInt.toNat = k := (by omega)
      have q9 := hq hn ⟨h9a, h9b⟩
      unfold chV at q9
      rw [ek] at q9
      have hli : li = nI k := nI_is hk (by omega)
      subst hli
      rw [(one8 k (by omega)).1]
      exact xc_loop hD hX 7 (1 <<< k) k 0 _ (one8 k (by omega)).2 (by rw [pop8_1 k (by omega)]) (by omega) (by decide) q9
    · refine pv_thenX ?_
      first | exact hn2 ⟨h2a, by omega⟩ h9 | exact hn1 (fun h8 => h2 ⟨h8.1, by have := h8.2; omega⟩)
  · refine pv_thenX ?_
    first | exact hn2 ⟨h2a, by omega⟩ h9 | exact hn1 (fun h8 => h2 ⟨h8.1, by have := h8.2; omega⟩)
set_option maxRecDepth 20000 in
theorem c_onesF {M : fmM} {Q : fmR → fmM → Prop} {b : Int32} (hq : Q (.inl (some (.int (onF b)))) M) : pvGood Tm 0 qX11_ones [.int b] M Q := by
  refine pvGood_of (Nat.le_of_ble_eq_true rfl) ?_
  show pvEv Tm 0 qX11_ones 0 [some (.int b), none, none] [] M Q
  refine pv_iconst (pc := 0) (v := 0) (by decide) (fm_dec dtX11_ones 0 rfl) ?_
  refine pv_istoren (pc := 1) (n := 1) 1 rfl (by decide) rfl (fm_dec dtX11_ones 1 rfl) ?_
  dsimp only [List.set_cons_zero, List.set_cons_succ]
  refine pv_iconst (pc := 2) (v := 0) (by decide) (fm_dec dtX11_ones 2 rfl) ?_
  refine pv_istoren (pc := 3) (n := 2) 2 rfl (by decide) rfl (fm_dec dtX11_ones 3 rfl) ?_
  dsimp only [List.set_cons_zero, List.set_cons_succ]
  refine pv_iloadn (pc := 4) (n := 2) 2 rfl rfl (fm_dec dtX11_ones 4 rfl) ?_
  refine pv_bipush (pc := 5) (v := 8) (by decide) (fm_dec dtX11_ones 5 rfl) ?_
  refine pv_icmp_ge (pc := 7) 24 (by decide) (fm_dec dtX11_ones 6 rfl) (fun hc7 => by exfalso; revert hc7; decide) (fun _ => ?_)
  refine pv_iloadn (pc := 10) (n := 1) 1 rfl rfl (fm_dec dtX11_ones 7 rfl) ?_
  refine pv_iloadn (pc := 11) (n := 0) 0 rfl rfl (fm_dec dtX11_ones 8 rfl) ?_
  refine pv_iloadn (pc := 12) (n := 2) 2 rfl rfl (fm_dec dtX11_ones 9 rfl) ?_
  refine pv_ishr (pc := 13) (fm_dec dtX11_ones 10 rfl) ?_
  refine pv_iconst (pc := 14) (v := 1) (by decide) (fm_dec dtX11_ones 11 rfl) ?_
  refine pv_iand (pc := 15) (fm_dec dtX11_ones 12 rfl) ?_
  refine pv_iadd (pc := 16) (fm_dec dtX11_ones 13 rfl) ?_
  refine pv_istoren (pc := 17) (n := 1) 1 rfl (by decide) rfl (fm_dec dtX11_ones 14 rfl) ?_
  dsimp only [List.set_cons_zero, List.set_cons_succ]
  refine pv_iincc (pc := 18) 2 1 (by decide) rfl (by decide) rfl (fm_dec dtX11_ones 15 rfl) ?_
  dsimp only [List.set_cons_zero, List.set_cons_succ]
  rw [show (0 : Int32) + 1 = 1 by decide]
  refine pv_goto (pc := 21) 4 (by decide) (fm_dec dtX11_ones 16 rfl) ?_
  refine pv_iloadn (pc := 4) (n := 2) 2 rfl rfl (fm_dec dtX11_ones 4 rfl) ?_
  refine pv_bipush (pc := 5) (v := 8) (by decide) (fm_dec dtX11_ones 5 rfl) ?_
  refine pv_icmp_ge (pc := 7) 24 (by decide) (fm_dec dtX11_ones 6 rfl) (fun hc7 => by exfalso; revert hc7; decide) (fun _ => ?_)
  refine pv_iloadn (pc := 10) (n := 1) 1 rfl rfl (fm_dec dtX11_ones 7 rfl) ?_
  refine pv_iloadn (pc := 11) (n := 0) 0 rfl rfl (fm_dec dtX11_ones 8 rfl) ?_
  refine pv_iloadn (pc := 12) (n := 2) 2 rfl rfl (fm_dec dtX11_ones 9 rfl) ?_
  refine pv_ishr (pc := 13) (fm_dec dtX11_ones 10 rfl) ?_
  refine pv_iconst (pc := 14) (v := 1) (by decide) (fm_dec dtX11_ones 11 rfl) ?_
  refine pv_iand (pc := 15) (fm_dec dtX11_ones 12 rfl) ?_
  refine pv_iadd (pc := 16) (fm_dec dtX11_ones 13 rfl) ?_
  refine pv_istoren (pc := 17) (n := 1) 1 rfl (by decide) rfl (fm_dec dtX11_ones 14 rfl) ?_
  dsimp only [List.set_cons_zero, List.set_cons_succ]
  refine pv_iincc (pc := 18) 2 1 (by decide) rfl (by decide) rfl (fm_dec dtX11_ones 15 rfl) ?_
  dsimp only [List.set_cons_zero, List.set_cons_succ]
  rw [show (1 : Int32) + 1 = 2 by decide]
  refine pv_goto (pc := 21) 4 (by decide) (fm_dec dtX11_ones 16 rfl) ?_
  refine pv_iloadn (pc := 4) (n := 2) 2 rfl rfl (fm_dec dtX11_ones 4 rfl) ?_
  refine pv_bipush (pc := 5) (v := 8) (by decide) (fm_dec dtX11_ones 5 rfl) ?_
  refine pv_icmp_ge (pc := 7) 24 (by decide) (fm_dec dtX11_ones 6 rfl) (fun hc7 => by exfalso; revert hc7; decide) (fun _ => ?_)
  refine pv_iloadn (pc := 10) (n := 1) 1 rfl rfl (fm_dec dtX11_ones 7 rfl) ?_
  refine pv_iloadn (pc := 11) (n := 0) 0 rfl rfl (fm_dec dtX11_ones 8 rfl) ?_
  refine pv_iloadn (pc := 12) (n := 2) 2 rfl rfl (fm_dec dtX11_ones 9 rfl) ?_
  refine pv_ishr (pc := 13) (fm_dec dtX11_ones 10 rfl) ?_
  refine pv_iconst (pc := 14) (v := 1) (by decide) (fm_dec dtX11_ones 11 rfl) ?_
  refine pv_iand (pc := 15) (fm_dec dtX11_ones 12 rfl) ?_
  refine pv_iadd (pc := 16) (fm_dec dtX11_ones 13 rfl) ?_
  refine pv_istoren (pc := 17) (n := 1) 1 rfl (by decide) rfl (fm_dec dtX11_ones 14 rfl) ?_
  dsimp only [List.set_cons_zero, List.set_cons_succ]
  refine pv_iincc (pc := 18) 2 1 (by decide) rfl (by decide) rfl (fm_dec dtX11_ones 15 rfl) ?_
  dsimp only [List.set_cons_zero, List.set_cons_succ]
  rw [show (2 : Int32) + 1 = 3 by decide]
  refine pv_goto (pc := 21) 4 (by decide) (fm_dec dtX11_ones 16 rfl) ?_
  refine pv_iloadn (pc := 4) (n := 2) 2 rfl rfl (fm_dec dtX11_ones 4 rfl) ?_
  refine pv_bipush (pc := 5) (v := 8) (by decide) (fm_dec dtX11_ones 5 rfl) ?_
  refine pv_icmp_ge (pc := 7) 24 (by decide) (fm_dec dtX11_ones 6 rfl) (fun hc7 => by exfalso; revert hc7; decide) (fun _ => ?_)
  refine pv_iloadn (pc := 10) (n := 1) 1 rfl rfl (fm_dec dtX11_ones 7 rfl) ?_
  refine pv_iloadn (pc := 11) (n := 0) 0 rfl rfl (fm_dec dtX11_ones 8 rfl) ?_
  refine pv_iloadn (pc := 12) (n := 2) 2 rfl rfl (fm_dec dtX11_ones 9 rfl) ?_
  refine pv_ishr (pc := 13) (fm_dec dtX11_ones 10 rfl) ?_
  refine pv_iconst (pc := 14) (v := 1) (by decide) (fm_dec dtX11_ones 11 rfl) ?_
  refine pv_iand (pc := 15) (fm_dec dtX11_ones 12 rfl) ?_
  refine pv_iadd (pc := 16) (fm_dec dtX11_ones 13 rfl) ?_
  refine pv_istoren (pc := 17) (n := 1) 1 rfl (by decide) rfl (fm_dec dtX11_ones 14 rfl) ?_
  dsimp only [List.set_cons_zero, List.set_cons_succ]
  refine pv_iincc (pc := 18) 2 1 (by decide) rfl (by decide) rfl (fm_dec dtX11_ones 15 rfl) ?_
  dsimp only [List.set_cons_zero, List.set_cons_succ]
  rw [show (3 : Int32) + 1 = 4 by decide]
  refine pv_goto (pc := 21) 4 (by decide) (fm_dec dtX11_ones 16 rfl) ?_
  refine pv_iloadn (pc := 4) (n := 2) 2 rfl rfl (fm_dec dtX11_ones 4 rfl) ?_
  refine pv_bipush (pc := 5) (v := 8) (by decide) (fm_dec dtX11_ones 5 rfl) ?_
  refine pv_icmp_ge (pc := 7) 24 (by decide) (fm_dec dtX11_ones 6 rfl) (fun hc7 => by exfalso; revert hc7; decide) (fun _ => ?_)
  refine pv_iloadn (pc := 10) (n := 1) 1 rfl rfl (fm_dec dtX11_ones 7 rfl) ?_
  refine pv_iloadn (pc := 11) (n := 0) 0 rfl rfl (fm_dec dtX11_ones 8 rfl) ?_
  refine pv_iloadn (pc := 12) (n := 2) 2 rfl rfl (fm_dec dtX11_ones 9 rfl) ?_
  refine pv_ishr (pc := 13) (fm_dec dtX11_ones 10 rfl) ?_
  refine pv_iconst (pc := 14) (v := 1) (by decide) (fm_dec dtX11_ones 11 rfl) ?_
  refine pv_iand (pc := 15) (fm_dec dtX11_ones 12 rfl) ?_
  refine pv_iadd (pc := 16) (fm_dec dtX11_ones 13 rfl) ?_
  refine pv_istoren (pc := 17) (n := 1) 1 rfl (by decide) rfl (fm_dec dtX11_ones 14 rfl) ?_
  dsimp only [List.set_cons_zero, List.set_cons_succ]
  refine pv_iincc (pc := 18) 2 1 (by decide) rfl (by decide) rfl (fm_dec dtX11_ones 15 rfl) ?_
  dsimp only [List.set_cons_zero, List.set_cons_succ]
  rw [show (4 : Int32) + 1 = 5 by decide]
  refine pv_goto (pc := 21) 4 (by decide) (fm_dec dtX11_ones 16 rfl) ?_
  refine pv_iloadn (pc := 4) (n := 2) 2 rfl rfl (fm_dec dtX11_ones 4 rfl) ?_
  refine pv_bipush (pc := 5) (v := 8) (by decide) (fm_dec dtX11_ones 5 rfl) ?_
  refine pv_icmp_ge (pc := 7) 24 (by decide) (fm_dec dtX11_ones 6 rfl) (fun hc7 => by exfalso; revert hc7; decide) (fun _ => ?_)
  refine pv_iloadn (pc := 10) (n := 1) 1 rfl rfl (fm_dec dtX11_ones 7 rfl) ?_
  refine pv_iloadn (pc := 11) (n := 0) 0 rfl rfl (fm_dec dtX11_ones 8 rfl) ?_
  refine pv_iloadn (pc := 12) (n := 2) 2 rfl rfl (fm_dec dtX11_ones 9 rfl) ?_
  refine pv_ishr (pc := 13) (fm_dec dtX11_ones 10 rfl) ?_
  refine pv_iconst (pc := 14) (v := 1) (by decide) (fm_dec dtX11_ones 11 rfl) ?_
  refine pv_iand (pc := 15) (fm_dec dtX11_ones 12 rfl) ?_
  refine pv_iadd (pc := 16) (fm_dec dtX11_ones 13 rfl) ?_
  refine pv_istoren (pc := 17) (n := 1) 1 rfl (by decide) rfl (fm_dec dtX11_ones 14 rfl) ?_
  dsimp only [List.set_cons_zero, List.set_cons_succ]
  refine pv_iincc (pc := 18) 2 1 (by decide) rfl (by decide) rfl (fm_dec dtX11_ones 15 rfl) ?_
  dsimp only [List.set_cons_zero, List.set_cons_succ]
  rw [show (5 : Int32) + 1 = 6 by decide]
  refine pv_goto (pc := 21) 4 (by decide) (fm_dec dtX11_ones 16 rfl) ?_
  refine pv_iloadn (pc := 4) (n := 2) 2 rfl rfl (fm_dec dtX11_ones 4 rfl) ?_
  refine pv_bipush (pc := 5) (v := 8) (by decide) (fm_dec dtX11_ones 5 rfl) ?_
  refine pv_icmp_ge (pc := 7) 24 (by decide) (fm_dec dtX11_ones 6 rfl) (fun hc7 => by exfalso; revert hc7; decide) (fun _ => ?_)
  refine pv_iloadn (pc := 10) (n := 1) 1 rfl rfl (fm_dec dtX11_ones 7 rfl) ?_
  refine pv_iloadn (pc := 11) (n := 0) 0 rfl rfl (fm_dec dtX11_ones 8 rfl) ?_
  refine pv_iloadn (pc := 12) (n := 2) 2 rfl rfl (fm_dec dtX11_ones 9 rfl) ?_
  refine pv_ishr (pc := 13) (fm_dec dtX11_ones 10 rfl) ?_
  refine pv_iconst (pc := 14) (v := 1) (by decide) (fm_dec dtX11_ones 11 rfl) ?_
  refine pv_iand (pc := 15) (fm_dec dtX11_ones 12 rfl) ?_
  refine pv_iadd (pc := 16) (fm_dec dtX11_ones 13 rfl) ?_
  refine pv_istoren (pc := 17) (n := 1) 1 rfl (by decide) rfl (fm_dec dtX11_ones 14 rfl) ?_
  dsimp only [List.set_cons_zero, List.set_cons_succ]
  refine pv_iincc (pc := 18) 2 1 (by decide) rfl (by decide) rfl (fm_dec dtX11_ones 15 rfl) ?_
  dsimp only [List.set_cons_zero, List.set_cons_succ]
  rw [show (6 : Int32) + 1 = 7 by decide]
  refine pv_goto (pc := 21) 4 (by decide) (fm_dec dtX11_ones 16 rfl) ?_
  refine pv_iloadn (pc := 4) (n := 2) 2 rfl rfl (fm_dec dtX11_ones 4 rfl) ?_
  refine pv_bipush (pc := 5) (v := 8) (by decide) (fm_dec dtX11_ones 5 rfl) ?_
  refine pv_icmp_ge (pc := 7) 24 (by decide) (fm_dec dtX11_ones 6 rfl) (fun hc7 => by exfalso; revert hc7; decide) (fun _ => ?_)
  refine pv_iloadn (pc := 10) (n := 1) 1 rfl rfl (fm_dec dtX11_ones 7 rfl) ?_
  refine pv_iloadn (pc := 11) (n := 0) 0 rfl rfl (fm_dec dtX11_ones 8 rfl) ?_
  refine pv_iloadn (pc := 12) (n := 2) 2 rfl rfl (fm_dec dtX11_ones 9 rfl) ?_
  refine pv_ishr (pc := 13) (fm_dec dtX11_ones 10 rfl) ?_
  refine pv_iconst (pc := 14) (v := 1) (by decide) (fm_dec dtX11_ones 11 rfl) ?_
  refine pv_iand (pc := 15) (fm_dec dtX11_ones 12 rfl) ?_
  refine pv_iadd (pc := 16) (fm_dec dtX11_ones 13 rfl) ?_
  refine pv_istoren (pc := 17) (n := 1) 1 rfl (by decide) rfl (fm_dec dtX11_ones 14 rfl) ?_
  dsimp only [List.set_cons_zero, List.set_cons_succ]
  refine pv_iincc (pc := 18) 2 1 (by decide) rfl (by decide) rfl (fm_dec dtX11_ones 15 rfl) ?_
  dsimp only [List.set_cons_zero, List.set_cons_succ]
  rw [show (7 : Int32) + 1 = 8 by decide]
  refine pv_goto (pc := 21) 4 (by decide) (fm_dec dtX11_ones 16 rfl) ?_
  refine pv_iloadn (pc := 4) (n := 2) 2 rfl rfl (fm_dec dtX11_ones 4 rfl) ?_
  refine pv_bipush (pc := 5) (v := 8) (by decide) (fm_dec dtX11_ones 5 rfl) ?_
  refine pv_icmp_ge (pc := 7) 24 (by decide) (fm_dec dtX11_ones 6 rfl) (fun _ => ?_) (fun hc7 => by exfalso; revert hc7; decide)
  refine pv_iloadn (pc := 24) (n := 1) 1 rfl rfl (fm_dec dtX11_ones 17 rfl) ?_
  exact pv_ireturn (pc := 25) rfl (fm_dec dtX11_ones 18 rfl) hq
theorem c_ones8 {M : fmM} {Q : fmR → fmM → Prop} {w : Nat} (hw : w < 256) (hq : Q (.inl (some (.int (nI (pop8 w))))) M) : pvGood Tm 0 qX11_ones [.int (nI w)] M Q := c_onesF (by rw [on8 w hw]; exact hq)
set_option maxRecDepth 20000 in
theorem mc_loop {Q : fmR → fmM → Prop} {M : fmM} {i wh : Int32} {D : dD} (hD : dOk D) (hY : mdw M D) : ∀ (m : Nat) (w l : Nat), w < 256 → 8 - pop8 w = m → l < D.1 → Q (.inl (some (.int (chR (chS (chB D) m w l) wh)))) M → pvEv Tm 2 qX11_chain 59 [some (.ref 0), some (.int i), some (.int wh), some (.int (nI w)), some (.int (nI l))] [] M Q := by
  intro m
  induction m using Nat.strongRecOn with
  | _ m ih =>
    intro w l hw hm hl hq
    have d8 := hD.1
    have hl8 : l < 8 := (by omega)
    have hl9 : (nI l).toInt = (l : Int) := nI_toInt (by omega)
    have hx9 : (M.1 (35 + l) (Int32.toNatClampNeg 5)).toInt = chB D l := hY.2.2.2.1 l hl 5 (by decide)
    have zm : (-1 : Int32).toInt = -1 := (by decide)
    refine pv_aloadn (pc := 59) (n := 0) 0 rfl rfl (fm_dec dtX11_chain 36 rfl) ?_
    refine pv_getR (k := 0) (j := 14) (ci := 11) (pc := 60) 17 rfl (by decide) pfl_X11_31 (by decide) rfl (by decide) (fm_dec dtX11_chain 37 rfl) ?_
    refine pv_iload (pc := 63) (i := 4) rfl (fm_dec dtX11_chain 38 rfl) ?_
    refine pv_aald (k := 17) (n := 8) (r := (35 + l)) (pc := 65) (by decide) (Or.inr (Or.inr rfl)) rfl (rw_life.inb hl9 hl8) (rw_life.at hl9 hl8) (rw_life.2.2.2 _ hl8).2.1 (fm_dec dtX11_chain 39 rfl) ?_
    refine pv_iconst (pc := 66) (v := 5) (by decide) (fm_dec dtX11_chain 40 rfl) ?_
    refine pv_iald (k := (35 + l)) (n := 6) (pc := 67) (rw_life.2.2.2 _ hl8).2.2.1 (rw_life.2.2.2 _ hl8).2.2.2.1 (rw_life.2.2.2 _ hl8).2.2.2.2 (fm_inl (by decide)) (fm_dec dtX11_chain 41 rfl) ?_
    refine pv_iconst (pc := 68) (v := (-1)) (by decide) (fm_dec dtX11_chain 42 rfl) ?_
    refine pv_icmp_eq (pc := 69) 109 (by decide) (fm_dec dtX11_chain 43 rfl) (fun hc69 => ?_) (fun hc69 => ?_)
    · have hn9 : chB D l < 0 := (by have h9 := congrArg Int32.toInt hc69; omega)
      rw [ch_no hn9] at hq
      refine pv_iloadn (pc := 109) (n := 2) 2 rfl rfl (fm_dec dtX11_chain 67 rfl) ?_
      refine pv_if_ne (pc := 110) 120 (by decide) (fm_dec dtX11_chain 68 rfl) (fun hc110 => ?_) (fun hc110 => ?_)
      · refine pv_iload (pc := 120) (i := 4) rfl (fm_dec dtX11_chain 72 rfl) ?_
        exact pv_ireturn (pc := 122) rfl (fm_dec dtX11_chain 73 rfl) (by rw [chR_l hc110] at hq; exact hq)
      · refine pv_iloadn (pc := 113) (n := 3) 3 rfl rfl (fm_dec dtX11_chain 69 rfl) ?_
        refine pv_iS1 (d' := 0) (pc := 114) pcs_X11_416 (Nat.le_of_ble_eq_true rfl) (by decide) (fm_dec dtX11_chain 70 rfl) ?_
        refine c_ones8 hw ?_
        refine pv_then1 ?_
        refine pv_goto (pc := 117) 122 (by decide) (fm_dec dtX11_chain 71 rfl) ?_
        exact pv_ireturn (pc := 122) rfl (fm_dec dtX11_chain 73 rfl) (by rw [chR_s hc110] at hq; exact hq)
    · have hn9 : ¬ chB D l < 0 := (by intro h9; apply hc69; apply i32_ext; have h8 := (hD.2.2.1 l hl).2.2.2.2.2; have e : D.2.1 l 5 = chB D l := rfl; omega)
      obtain ⟨k, hk, hk8, hkb, hkx⟩ := by_d hD hl hx9 hn9
      refine pv_iloadn (pc := 72) (n := 3) 3 rfl rfl (fm_dec dtX11_chain 44 rfl) ?_
      refine pv_aloadn (pc := 73) (n := 0) 0 rfl rfl (fm_dec dtX11_chain 45 rfl) ?_
      refine pv_getR (k := 0) (j := 14) (ci := 11) (pc := 74) 17 rfl (by decide) pfl_X11_31 (by decide) rfl (by decide) (fm_dec dtX11_chain 46 rfl) ?_
      refine pv_iload (pc := 77) (i := 4) rfl (fm_dec dtX11_chain 47 rfl) ?_
      refine pv_aald (k := 17) (n := 8) (r := (35 + l)) (pc := 79) (by decide) (Or.inr (Or.inr rfl)) rfl (rw_life.inb hl9 hl8) (rw_life.at hl9 hl8) (rw_life.2.2.2 _ hl8).2.1 (fm_dec dtX11_chain 48 rfl) ?_
      refine pv_iconst (pc := 80) (v := 5) (by decide) (fm_dec dtX11_chain 49 rfl) ?_
      refine pv_iald (k := (35 + l)) (n := 6) (pc := 81) (rw_life.2.2.2 _ hl8).2.2.1 (rw_life.2.2.2 _ hl8).2.2.2.1 (rw_life.2.2.2 _ hl8).2.2.2.2 (fm_inl (by decide)) (fm_dec dtX11_chain 50 rfl) ?_
      refine pv_iS2 (d' := 0) (pc := 82) pcs_X11_256 (Nat.le_of_ble_eq_true rfl) (by decide) (fm_dec dtX11_chain 51 rfl) ?_
      refine c_has (fun h82 => ?_) (fun h82 => ?_)
      · refine pv_then1 ?_
        refine pv_if_ne (pc := 85) 109 (by decide) (fm_dec dtX11_chain 52 rfl) (fun _ => ?_) (fun hc85 => by exfalso; revert hc85; decide)
        have ht : w.testBit k = true := (has8 w hw k hk8).mp (by rw [← hkx]; exact h82)
        rw [ch_has hkb ht] at hq
        refine pv_iloadn (pc := 109) (n := 2) 2 rfl rfl (fm_dec dtX11_chain 67 rfl) ?_
        refine pv_if_ne (pc := 110) 120 (by decide) (fm_dec dtX11_chain 68 rfl) (fun hc110 => ?_) (fun hc110 => ?_)
        · refine pv_iload (pc := 120) (i := 4) rfl (fm_dec dtX11_chain 72 rfl) ?_
          exact pv_ireturn (pc := 122) rfl (fm_dec dtX11_chain 73 rfl) (by rw [chR_l hc110] at hq; exact hq)
        · refine pv_iloadn (pc := 113) (n := 3) 3 rfl rfl (fm_dec dtX11_chain 69 rfl) ?_
          refine pv_iS1 (d' := 0) (pc := 114) pcs_X11_416 (Nat.le_of_ble_eq_true rfl) (by decide) (fm_dec dtX11_chain 70 rfl) ?_
          refine c_ones8 hw ?_
          refine pv_then1 ?_
          refine pv_goto (pc := 117) 122 (by decide) (fm_dec dtX11_chain 71 rfl) ?_
          exact pv_ireturn (pc := 122) rfl (fm_dec dtX11_chain 73 rfl) (by rw [chR_s hc110] at hq; exact hq)
      · refine pv_then1 ?_
        refine pv_if_ne (pc := 85) 109 (by decide) (fm_dec dtX11_chain 52 rfl) (fun hc85 => by exfalso; revert hc85; decide) (fun _ => ?_)
        refine pv_aloadn (pc := 88) (n := 0) 0 rfl rfl (fm_dec dtX11_chain 53 rfl) ?_
        refine pv_getR (k := 0) (j := 14) (ci := 11) (pc := 89) 17 rfl (by decide) pfl_X11_31 (by decide) rfl (by decide) (fm_dec dtX11_chain 54 rfl) ?_
        refine pv_iload (pc := 92) (i := 4) rfl (fm_dec dtX11_chain 55 rfl) ?_
        refine pv_aald (k := 17) (n := 8) (r := (35 + l)) (pc := 94) (by decide) (Or.inr (Or.inr rfl)) rfl (rw_life.inb hl9 hl8) (rw_life.at hl9 hl8) (rw_life.2.2.2 _ hl8).2.1 (fm_dec dtX11_chain 56 rfl) ?_
        refine pv_iconst (pc := 95) (v := 5) (by decide) (fm_dec dtX11_chain 57 rfl) ?_
        refine pv_iald (k := (35 + l)) (n := 6) (pc := 96) (rw_life.2.2.2 _ hl8).2.2.1 (rw_life.2.2.2 _ hl8).2.2.2.1 (rw_life.2.2.2 _ hl8).2.2.2.2 (fm_inl (by decide)) (fm_dec dtX11_chain 58 rfl) ?_
        refine pv_istore (pc := 97) (i := 4) (by decide) rfl (fm_dec dtX11_chain 59 rfl) ?_
        dsimp only [List.set_cons_zero, List.set_cons_succ]
        refine pv_iloadn (pc := 99) (n := 3) 3 rfl rfl (fm_dec dtX11_chain 60 rfl) ?_
        refine pv_iconst (pc := 100) (v := 1) (by decide) (fm_dec dtX11_chain 61 rfl) ?_
        refine pv_iload (pc := 101) (i := 4) rfl (fm_dec dtX11_chain 62 rfl) ?_
        refine pv_ishl (pc := 103) (fm_dec dtX11_chain 63 rfl) ?_
        refine pv_ior (pc := 104) (fm_dec dtX11_chain 64 rfl) ?_
        refine pv_istoren (pc := 105) (n := 3) 3 rfl (by decide) rfl (fm_dec dtX11_chain 65 rfl) ?_
        dsimp only [List.set_cons_zero, List.set_cons_succ]
        refine pv_goto (pc := 106) 59 (by decide) (fm_dec dtX11_chain 66 rfl) ?_
        have ht : w.testBit k = false := Bool.eq_false_iff.mpr (fun h9 => h82 (by rw [hkx]; exact (has8 w hw k hk8).mpr h9))
        have hp := pop8_add w hw k hk8 ht
        have hle := pop8_le _ hp.2
        obtain ⟨f, rfl⟩ : ∃ f, m = f + 1 := ⟨m - 1, by omega⟩
        rw [ch_go hkb ht] at hq
        rw [hkx, or8 w hw k hk8]
        exact ih f (by omega) (w ||| 1 <<< k) k hp.2 (by omega) hk hq
set_option maxRecDepth 20000 in
theorem c_mchain {M : fmM} {Q : fmR → fmM → Prop} {i p : Int32} {D : dD} (hD : dOk D) (hY : mdw M D) (h1 : ¬ inL D i → ∀ (x : Int32) (M' : fmM), M'.1 0 0 = 1 → Q (.inl (some (.int x))) M') (h2 : inL D i → ¬ inW p 0 1 → ∀ (x : Int32) (M' : fmM), M'.1 0 0 = 2 → Q (.inl (some (.int x))) M') (hq : inL D i → inW p 0 1 → Q (.inl (some (.int (chV D i p)))) (fmI M 0 0 0)) : pvGood Tm 2 qX11_chain [.ref 0, .int i, .int p] M Q := by
  refine pvGood_of (Nat.le_of_ble_eq_true rfl) ?_
  show pvEv Tm 2 qX11_chain 0 [some (.ref 0), some (.int i), some (.int p), none, none] [] M Q
  have h4 : (M.1 4 0).toInt = (D.1 : Int) := hY.1
  have hl := hD.1
  refine pv_aloadn (pc := 0) (n := 0) 0 rfl rfl (fm_dec dtX11_chain 0 rfl) ?_
  refine pv_iconst (pc := 1) (v := 0) (by decide) (fm_dec dtX11_chain 1 rfl) ?_
  refine pv_putI (k := 0) (j := 0) (ci := 11) (pc := 2) pfl_X11_101 (by decide) rfl (by decide) (fm_dec dtX11_chain 2 rfl) ?_
  refine pv_aloadn (pc := 5) (n := 0) 0 rfl rfl (fm_dec dtX11_chain 3 rfl) ?_
  refine pv_aloadn (pc := 6) (n := 0) 0 rfl rfl (fm_dec dtX11_chain 4 rfl) ?_
  refine pv_iloadn (pc := 7) (n := 1) 1 rfl rfl (fm_dec dtX11_chain 5 rfl) ?_
  refine pv_invV1 (k := 0) (d' := 1) (pc := 8) pcv_X11_331 (by decide) rfl (Nat.le_of_ble_eq_true rfl) (by decide) (fm_dec dtX11_chain 6 rfl) ?_
  refine c_isLife (M := fmI M 0 0 0) h4 hl (fun k hk hkl => ?_) (fun hno => ?_)
  · refine pv_then1 ?_
    refine pv_if_ne (pc := 11) 18 (by decide) (fm_dec dtX11_chain 7 rfl) (fun _ => ?_) (fun hc11 => by exfalso; revert hc11; decide)
    refine pv_iconst (pc := 18) (v := 0) (by decide) (fm_dec dtX11_chain 10 rfl) ?_
    refine pv_iconst (pc := 19) (v := 1) (by decide) (fm_dec dtX11_chain 11 rfl) ?_
    refine pv_iconst (pc := 20) (v := 0) (by decide) (fm_dec dtX11_chain 12 rfl) ?_
    refine pv_invV3 (k := 0) (d' := 0) (pc := 21) pcv_X11_177 (by decide) rfl (Nat.le_of_ble_eq_true rfl) (by decide) (fm_dec dtX11_chain 13 rfl) ?_
    refine c_badF0 rfl ?_
    refine pv_then1 ?_
    refine pv_if_ne (pc := 24) 50 (by decide) (fm_dec dtX11_chain 14 rfl) (fun hc24 => by exfalso; revert hc24; decide) (fun _ => ?_)
    refine pv_aloadn (pc := 27) (n := 0) 0 rfl rfl (fm_dec dtX11_chain 15 rfl) ?_
    refine pv_iloadn (pc := 28) (n := 2) 2 rfl rfl (fm_dec dtX11_chain 16 rfl) ?_
    refine pv_iconst (pc := 29) (v := 0) (by decide) (fm_dec dtX11_chain 17 rfl) ?_
    refine pv_iconst (pc := 30) (v := 1) (by decide) (fm_dec dtX11_chain 18 rfl) ?_
    refine pv_iS3 (d' := 0) (pc := 31) pcs_X11_135 (Nat.le_of_ble_eq_true rfl) (by decide) (fm_dec dtX11_chain 19 rfl) ?_
    refine c_in (fun h31a h31b => ?_) (fun h31 => ?_)
    · refine pv_then1 ?_
      refine pv_if_ne (pc := 34) 41 (by decide) (fm_dec dtX11_chain 20 rfl) (fun _ => ?_) (fun hc34 => by exfalso; revert hc34; decide)
      refine pv_iconst (pc := 41) (v := 0) (by decide) (fm_dec dtX11_chain 23 rfl) ?_
      refine pv_iconst (pc := 42) (v := 2) (by decide) (fm_dec dtX11_chain 24 rfl) ?_
      refine pv_iconst (pc := 43) (v := 1) (by decide) (fm_dec dtX11_chain 25 rfl) ?_
      refine pv_invV3 (k := 0) (d' := 0) (pc := 44) pcv_X11_177 (by decide) rfl (Nat.le_of_ble_eq_true rfl) (by decide) (fm_dec dtX11_chain 26 rfl) ?_
      refine c_badF1 rfl ?_
      refine pv_then1 ?_
      refine pv_if_eq (pc := 47) 52 (by decide) (fm_dec dtX11_chain 27 rfl) (fun _ => ?_) (fun hc47 => by exfalso; revert hc47; decide)
      refine pv_iconst (pc := 52) (v := 1) (by decide) (fm_dec dtX11_chain 30 rfl) ?_
      refine pv_iloadn (pc := 53) (n := 1) 1 rfl rfl (fm_dec dtX11_chain 31 rfl) ?_
      refine pv_ishl (pc := 54) (fm_dec dtX11_chain 32 rfl) ?_
      refine pv_istoren (pc := 55) (n := 3) 3 rfl (by decide) rfl (fm_dec dtX11_chain 33 rfl) ?_
      dsimp only [List.set_cons_zero, List.set_cons_succ]
      refine pv_iloadn (pc := 56) (n := 1) 1 rfl rfl (fm_dec dtX11_chain 34 rfl) ?_
      refine pv_istore (pc := 57) (i := 4) (by decide) rfl (fm_dec dtX11_chain 35 rfl) ?_
      dsimp only [List.set_cons_zero, List.set_cons_succ]
      have hn : inL D i := ⟨by omega, by omega⟩
      have ek : i.toInt.toNat = k := (by omega)
      have q9 := hq hn ⟨h31a, h31b⟩
      unfold chV at q9
      rw [ek] at q9
      have hi9 : i = nI k := nI_is hk (by omega)
      subst hi9
      rw [(one8 k (by omega)).1]
      exact mc_loop hD (M := fmI M 0 0 0) ⟨hY.1, hY.2.1, hY.2.2.1, fun i hi j hj => (by rw [fmI_k _ _ (by omega)]; exact hY.2.2.2.1 i hi j hj), fun i hi j hj => (by rw [fmI_k _ _ (by omega)]; exact hY.2.2.2.2 i hi j hj)⟩ 7 (1 <<< k) k (one8 k (by omega)).2 (by rw [pop8_1 k (by omega)]) (by omega) q9
    · refine pv_then1 ?_
      refine pv_if_ne (pc := 34) 41 (by decide) (fm_dec dtX11_chain 20 rfl) (fun hc34 => by exfalso; revert hc34; decide) (fun _ => ?_)
      refine pv_iconst (pc := 37) (v := 1) (by decide) (fm_dec dtX11_chain 21 rfl) ?_
      refine pv_goto (pc := 38) 42 (by decide) (fm_dec dtX11_chain 22 rfl) ?_
      refine pv_iconst (pc := 42) (v := 2) (by decide) (fm_dec dtX11_chain 24 rfl) ?_
      refine pv_iconst (pc := 43) (v := 1) (by decide) (fm_dec dtX11_chain 25 rfl) ?_
      refine pv_invV3 (k := 0) (d' := 0) (pc := 44) pcv_X11_177 (by decide) rfl (Nat.le_of_ble_eq_true rfl) (by decide) (fm_dec dtX11_chain 26 rfl) ?_
      refine c_badT1 rfl (by decide) ?_
      refine pv_then1 ?_
      refine pv_if_eq (pc := 47) 52 (by decide) (fm_dec dtX11_chain 27 rfl) (fun hc47 => by exfalso; revert hc47; decide) (fun _ => ?_)
      refine pv_iconst (pc := 50) (v := 0) (by decide) (fm_dec dtX11_chain 28 rfl) ?_
      exact pv_ireturn (pc := 51) rfl (fm_dec dtX11_chain 29 rfl) (h2 ⟨by omega, by omega⟩ h31 _ _ rfl)
  · refine pv_then1 ?_
    refine pv_if_ne (pc := 11) 18 (by decide) (fm_dec dtX11_chain 7 rfl) (fun hc11 => by exfalso; revert hc11; decide) (fun _ => ?_)
    refine pv_iconst (pc := 14) (v := 1) (by decide) (fm_dec dtX11_chain 8 rfl) ?_
    refine pv_goto (pc := 15) 19 (by decide) (fm_dec dtX11_chain 9 rfl) ?_
    refine pv_iconst (pc := 19) (v := 1) (by decide) (fm_dec dtX11_chain 11 rfl) ?_
    refine pv_iconst (pc := 20) (v := 0) (by decide) (fm_dec dtX11_chain 12 rfl) ?_
    refine pv_invV3 (k := 0) (d' := 0) (pc := 21) pcv_X11_177 (by decide) rfl (Nat.le_of_ble_eq_true rfl) (by decide) (fm_dec dtX11_chain 13 rfl) ?_
    refine c_badT0 rfl (by decide) ?_
    refine pv_then1 ?_
    refine pv_if_ne (pc := 24) 50 (by decide) (fm_dec dtX11_chain 14 rfl) (fun _ => ?_) (fun hc24 => by exfalso; revert hc24; decide)
    refine pv_iconst (pc := 50) (v := 0) (by decide) (fm_dec dtX11_chain 28 rfl) ?_
    exact pv_ireturn (pc := 51) rfl (fm_dec dtX11_chain 29 rfl) (h1 hno _ _ rfl)
theorem xe_chain {M : fmM} {a0 a1 : Int32} {D : dD} (hD : dOk D) (hX : xdw 3 M D) : pvGood Tx 250 qX10_chain [.ref 0, .int a0, .int a1] M (fun r _ => (inL D a0 ∧ inW a1 0 1 ∧ r = .inl (some (.int (chV D a0 a1)))) ∨ (¬ inL D a0 ∧ r = .inr fmNSE) ∨ (inL D a0 ∧ ¬ inW a1 0 1 ∧ r = .inr fmIAE)) := (c_xchain hD hX (fun h => Or.inr (Or.inl ⟨h, rfl⟩)) (fun h h' => Or.inr (Or.inr ⟨h, h', rfl⟩)) (fun h h' => Or.inl ⟨h, h', rfl⟩)).up (by decide)
theorem me_chain {M : fmM} {a0 a1 : Int32} {D : dD} (hD : dOk D) (hY : mdw M D) : pvGood Tm 250 qX11_chain [.ref 0, .int a0, .int a1] M (fun r M' => (inL D a0 ∧ inW a1 0 1 ∧ r = .inl (some (.int (chV D a0 a1))) ∧ M'.1 0 0 = 0) ∨ (¬ inL D a0 ∧ M'.1 0 0 = 1) ∨ (inL D a0 ∧ ¬ inW a1 0 1 ∧ M'.1 0 0 = 2)) := (c_mchain hD hY (fun h x M' e => Or.inr (Or.inl ⟨h, e⟩)) (fun h h' x M' e => Or.inr (Or.inr ⟨h, h', e⟩)) (fun h h' => Or.inl ⟨h, h', rfl, rfl⟩)).up (by decide)
end
-- P 18s
section
-- FACTS IN A WEEK, exactly
theorem xor6 : ∀ w, w < 64 → ∀ k, k < 6 → (nI w ^^^ (1 : Int32) <<< (nI k &&& 31)) = nI (w ^^^ 1 <<< k) ∧ w ^^^ 1 <<< k < 64 := by decide +kernel
theorem xor6z : ∀ w, w < 64 → (nI w ^^^ (0 : Int32)) = nI w := by decide +kernel
def fbS (D : dD) (li wk : Int) : Nat → Nat
  | 0 => 0
  | n + 1 => if D.2.2.2.1 n 0 = li ∧ D.2.2.2.1 n 2 ≤ wk then fbS D li wk n ^^^ 1 <<< (D.2.2.2.1 n 1).toNat else fbS D li wk n
theorem fb_no {D : dD} {li wk : Int} {n : Nat} (h : ¬ (D.2.2.2.1 n 0 = li ∧ D.2.2.2.1 n 2 ≤ wk)) : fbS D li wk (n + 1) = fbS D li wk n := if_neg h
theorem fb_go {D : dD} {li wk : Int} {n k : Nat} (h : D.2.2.2.1 n 0 = li ∧ D.2.2.2.1 n 2 ≤ wk) (hk : D.2.2.2.1 n 1 = (k : Int)) : fbS D li wk (n + 1) = fbS D li wk n ^^^ 1 <<< k := by
  show (if D.2.2.2.1 n 0 = li ∧ D.2.2.2.1 n 2 ≤ wk then fbS D li wk n ^^^ 1 <<< (D.2.2.2.1 n 1).toNat else fbS D li wk n) = _
  rw [if_pos h, hk, Int.toNat_natCast]
theorem fb_64 {D : dD} {li wk : Int} (hD : dOk D) : ∀ n, n ≤ D.2.2.1 → fbS D li wk n < 64 := by
  intro n
  induction n with
  | zero => intro _; exact (by decide : (0 : Nat) < 64)
  | succ n ih =>
    intro hn
    have h1 := ih (by omega)
    by_cases h : D.2.2.2.1 n 0 = li ∧ D.2.2.2.1 n 2 ≤ wk
    · have hb := (hD.2.2.2.1 n (by omega)).2.1
      rw [fb_go (k := (D.2.2.2.1 n 1).toNat) h (by omega)]
      exact (xor6 _ h1 _ (by omega)).2
    · rw [fb_no h]
      exact h1
/-- the facts of a life in a week -/
def fbA (D : dD) (li wk : Int) : Nat := fbS D li wk D.2.2.1
theorem kd_d {D : dD} {n : Nat} {x : Int32} (hD : dOk D) (hn : n < D.2.2.1) (hx : x.toInt = D.2.2.2.1 n 1) : ∃ k : Nat, k < 6 ∧ D.2.2.2.1 n 1 = (k : Int) ∧ x = nI k := by
  have hb := (hD.2.2.2.1 n hn).2.1
  exact ⟨(D.2.2.2.1 n 1).toNat, by omega, by omega, nI_is (by omega) (by omega)⟩
set_option maxRecDepth 20000 in
theorem xf_loop {Q : fmR → fmM → Prop} {M : fmM} {li wk : Int32} {D : dD} (hD : dOk D) (hX : xdw 3 M D) : ∀ (m : Nat) (n : Nat) (i : Int32), i.toInt = (n : Int) → n ≤ D.2.2.1 → D.2.2.1 - n = m → Q (.inl (some (.int (nI (fbA D li.toInt wk.toInt))))) M → pvEv Tx 0 qX8_factBits 5 [some (.ref 3), some (.int li), some (.int wk), some (.int (nI (fbS D li.toInt wk.toInt n))), some (.int i)] [] M Q := by
  intro m
  induction m using Nat.strongRecOn with
  | _ m ih =>
    intro n i hi hnD hm hq
    have c10 : (M.1 3 10).toInt = (D.2.2.1 : Int) := hX.1.2.1
    have d24 := hD.2.1
    refine pv_iload (pc := 5) (i := 4) rfl (fm_dec dtX8_factBits 4 rfl) ?_
    refine pv_aloadn (pc := 7) (n := 0) 0 rfl rfl (fm_dec dtX8_factBits 5 rfl) ?_
    refine pv_getI (k := 3) (j := 10) (ci := 8) (pc := 8) pfl_X8_46 (by decide) rfl (by decide) (fm_dec dtX8_factBits 6 rfl) ?_
    refine pv_icmp_ge (pc := 11) 54 (by decide) (fm_dec dtX8_factBits 7 rfl) (fun hc11 => ?_) (fun hc11 => ?_)
    · refine pv_iloadn (pc := 54) (n := 3) 3 rfl rfl (fm_dec dtX8_factBits 31 rfl) ?_
      exact pv_ireturn (pc := 55) rfl (fm_dec dtX8_factBits 32 rfl) (by have e9 : n = D.2.2.1 := (by rw [sc_le] at hc11; omega); subst e9; exact hq)
    · have hn : n < D.2.2.1 := (by rw [sc_le] at hc11; omega)
      have d24 := hD.2.1
      have f0 : (M.1 10 n).toInt = D.2.2.2.1 n 0 := hX.2.2 n hn 0 (by decide)
      have f1 : (M.1 11 n).toInt = D.2.2.2.1 n 1 := hX.2.2 n hn 1 (by decide)
      have f2 : (M.1 12 n).toInt = D.2.2.2.1 n 2 := hX.2.2 n hn 2 (by decide)
      refine pv_aloadn (pc := 14) (n := 0) 0 rfl rfl (fm_dec dtX8_factBits 8 rfl) ?_
      refine pv_getR (k := 3) (j := 6) (ci := 8) (pc := 15) 10 rfl (by decide) pfl_X8_30 (by decide) rfl (by decide) (fm_dec dtX8_factBits 9 rfl) ?_
      refine pv_iload (pc := 18) (i := 4) rfl (fm_dec dtX8_factBits 10 rfl) ?_
      refine pv_iald (k := 10) (n := 24) (pc := 20) (by decide) rfl rfl (ix_in hi (by omega)) (fm_dec dtX8_factBits 11 rfl) ?_
      rw [i32_cl hi]
      refine pv_iloadn (pc := 21) (n := 1) 1 rfl rfl (fm_dec dtX8_factBits 12 rfl) ?_
      refine pv_icmp_ne (pc := 22) 48 (by decide) (fm_dec dtX8_factBits 13 rfl) (fun hc22 => ?_) (fun hc22 => ?_)
      · refine pv_iincc (pc := 48) 4 1 (by decide) rfl (by decide) rfl (fm_dec dtX8_factBits 29 rfl) ?_
        dsimp only [List.set_cons_zero, List.set_cons_succ]
        refine pv_goto (pc := 51) 5 (by decide) (fm_dec dtX8_factBits 30 rfl) ?_
        have e9 : fbS D li.toInt wk.toInt (n + 1) = fbS D li.toInt wk.toInt n := fb_no (by intro h9; apply hc22; apply i32_ext; omega)
        rw [← e9]
        exact ih (D.2.2.1 - (n + 1)) (by omega) (n + 1) (i + 1) (i32_p1 hi (by omega)) (by omega) rfl hq
      · refine pv_aloadn (pc := 25) (n := 0) 0 rfl rfl (fm_dec dtX8_factBits 14 rfl) ?_
        refine pv_getR (k := 3) (j := 8) (ci := 8) (pc := 26) 12 rfl (by decide) pfl_X8_36 (by decide) rfl (by decide) (fm_dec dtX8_factBits 15 rfl) ?_
        refine pv_iload (pc := 29) (i := 4) rfl (fm_dec dtX8_factBits 16 rfl) ?_
        refine pv_iald (k := 12) (n := 24) (pc := 31) (by decide) rfl rfl (ix_in hi (by omega)) (fm_dec dtX8_factBits 17 rfl) ?_
        rw [i32_cl hi]
        refine pv_iloadn (pc := 32) (n := 2) 2 rfl rfl (fm_dec dtX8_factBits 18 rfl) ?_
        refine pv_icmp_gt (pc := 33) 48 (by decide) (fm_dec dtX8_factBits 19 rfl) (fun hc33 => ?_) (fun hc33 => ?_)
        · refine pv_iincc (pc := 48) 4 1 (by decide) rfl (by decide) rfl (fm_dec dtX8_factBits 29 rfl) ?_
          dsimp only [List.set_cons_zero, List.set_cons_succ]
          refine pv_goto (pc := 51) 5 (by decide) (fm_dec dtX8_factBits 30 rfl) ?_
          have e9 : fbS D li.toInt wk.toInt (n + 1) = fbS D li.toInt wk.toInt n := fb_no (by intro h9; rw [sc_lt] at hc33; omega)
          rw [← e9]
          exact ih (D.2.2.1 - (n + 1)) (by omega) (n + 1) (i + 1) (i32_p1 hi (by omega)) (by omega) rfl hq
        · refine pv_iloadn (pc := 36) (n := 3) 3 rfl rfl (fm_dec dtX8_factBits 20 rfl) ?_
          refine pv_iconst (pc := 37) (v := 1) (by decide) (fm_dec dtX8_factBits 21 rfl) ?_
          refine pv_aloadn (pc := 38) (n := 0) 0 rfl rfl (fm_dec dtX8_factBits 22 rfl) ?_
          refine pv_getR (k := 3) (j := 7) (ci := 8) (pc := 39) 11 rfl (by decide) pfl_X8_33 (by decide) rfl (by decide) (fm_dec dtX8_factBits 23 rfl) ?_
          refine pv_iload (pc := 42) (i := 4) rfl (fm_dec dtX8_factBits 24 rfl) ?_
          refine pv_iald (k := 11) (n := 24) (pc := 44) (by decide) rfl rfl (ix_in hi (by omega)) (fm_dec dtX8_factBits 25 rfl) ?_
          rw [i32_cl hi]
          refine pv_ishl (pc := 45) (fm_dec dtX8_factBits 26 rfl) ?_
          refine pv_ixor (pc := 46) (fm_dec dtX8_factBits 27 rfl) ?_
          refine pv_istoren (pc := 47) (n := 3) 3 rfl (by decide) rfl (fm_dec dtX8_factBits 28 rfl) ?_
          dsimp only [List.set_cons_zero, List.set_cons_succ]
          refine pv_iincc (pc := 48) 4 1 (by decide) rfl (by decide) rfl (fm_dec dtX8_factBits 29 rfl) ?_
          dsimp only [List.set_cons_zero, List.set_cons_succ]
          refine pv_goto (pc := 51) 5 (by decide) (fm_dec dtX8_factBits 30 rfl) ?_
          obtain ⟨k, hk6, hk, hkx⟩ := kd_d hD hn f1
          have e9 : fbS D li.toInt wk.toInt (n + 1) = fbS D li.toInt wk.toInt n ^^^ 1 <<< k := fb_go ⟨by rw [← f0, hc22], by rw [sc_lt] at hc33; omega⟩ hk
          rw [hkx, (xor6 _ (fb_64 hD n (by omega)) k hk6).1, ← e9]
          exact ih (D.2.2.1 - (n + 1)) (by omega) (n + 1) (i + 1) (i32_p1 hi (by omega)) (by omega) rfl hq
set_option maxRecDepth 20000 in
theorem c_xfb {M : fmM} {Q : fmR → fmM → Prop} {li wk : Int32} {D : dD} (hD : dOk D) (hX : xdw 3 M D) (hq : Q (.inl (some (.int (nI (fbA D li.toInt wk.toInt))))) M) : pvGood Tx 0 qX8_factBits [.ref 3, .int li, .int wk] M Q := by
  refine pvGood_of (Nat.le_of_ble_eq_true rfl) ?_
  show pvEv Tx 0 qX8_factBits 0 [some (.ref 3), some (.int li), some (.int wk), none, none] [] M Q
  refine pv_iconst (pc := 0) (v := 0) (by decide) (fm_dec dtX8_factBits 0 rfl) ?_
  refine pv_istoren (pc := 1) (n := 3) 3 rfl (by decide) rfl (fm_dec dtX8_factBits 1 rfl) ?_
  dsimp only [List.set_cons_zero, List.set_cons_succ]
  refine pv_iconst (pc := 2) (v := 0) (by decide) (fm_dec dtX8_factBits 2 rfl) ?_
  refine pv_istore (pc := 3) (i := 4) (by decide) rfl (fm_dec dtX8_factBits 3 rfl) ?_
  dsimp only [List.set_cons_zero, List.set_cons_succ]
  exact xf_loop hD hX D.2.2.1 0 0 (by decide) (by omega) (by omega) hq
set_option maxRecDepth 20000 in
theorem mf_loop {Q : fmR → fmM → Prop} {M : fmM} {li wk : Int32} {D : dD} (hD : dOk D) (hY : mdw M D) : ∀ (m : Nat) (n : Nat) (i : Int32), i.toInt = (n : Int) → n ≤ D.2.2.1 → D.2.2.1 - n = m → Q (.inl (some (.int (nI (fbA D li.toInt wk.toInt))))) M → pvEv Tm 0 qX11_factsAt 5 [some (.ref 0), some (.int li), some (.int wk), some (.int (nI (fbS D li.toInt wk.toInt n))), some (.int i)] [] M Q := by
  intro m
  induction m using Nat.strongRecOn with
  | _ m ih =>
    intro n i hi hnD hm hq
    have c10 : (M.1 4 (Int32.toNatClampNeg 1)).toInt = (D.2.2.1 : Int) := hY.2.1
    have d24 := hD.2.1
    refine pv_iload (pc := 5) (i := 4) rfl (fm_dec dtX11_factsAt 4 rfl) ?_
    refine pv_aloadn (pc := 7) (n := 0) 0 rfl rfl (fm_dec dtX11_factsAt 5 rfl) ?_
    refine pv_getR (k := 0) (j := 12) (ci := 11) (pc := 8) 4 rfl (by decide) pfl_X11_23 (by decide) rfl (by decide) (fm_dec dtX11_factsAt 6 rfl) ?_
    refine pv_iconst (pc := 11) (v := 1) (by decide) (fm_dec dtX11_factsAt 7 rfl) ?_
    refine pv_iald (k := 4) (n := 6) (pc := 12) (by decide) rfl rfl (fm_inl (by decide)) (fm_dec dtX11_factsAt 8 rfl) ?_
    refine pv_icmp_ge (pc := 13) 66 (by decide) (fm_dec dtX11_factsAt 9 rfl) (fun hc13 => ?_) (fun hc13 => ?_)
    · refine pv_iloadn (pc := 66) (n := 3) 3 rfl rfl (fm_dec dtX11_factsAt 41 rfl) ?_
      exact pv_ireturn (pc := 67) rfl (fm_dec dtX11_factsAt 42 rfl) (by have e9 : n = D.2.2.1 := (by rw [sc_le] at hc13; have h8 : (M.1 4 (Int32.toNatClampNeg 1)).toInt = (D.2.2.1 : Int) := hY.2.1; omega); subst e9; exact hq)
    · have hn : n < D.2.2.1 := (by rw [sc_le] at hc13; have h9 : (M.1 4 1).toInt = (D.2.2.1 : Int) := hY.2.1; have h8 : (M.1 4 (Int32.toNatClampNeg 1)).toInt = (D.2.2.1 : Int) := hY.2.1; omega)
      have d24 := hD.2.1
      have h24 : n < 24 := (by omega)
      have f0 : (M.1 (67 + n) (Int32.toNatClampNeg 0)).toInt = D.2.2.2.1 n 0 := hY.2.2.2.2 n hn 0 (by decide)
      have f1 : (M.1 (67 + n) (Int32.toNatClampNeg 1)).toInt = D.2.2.2.1 n 1 := hY.2.2.2.2 n hn 1 (by decide)
      have f2 : (M.1 (67 + n) (Int32.toNatClampNeg 2)).toInt = D.2.2.2.1 n 2 := hY.2.2.2.2 n hn 2 (by decide)
      refine pv_iloadn (pc := 16) (n := 3) 3 rfl rfl (fm_dec dtX11_factsAt 10 rfl) ?_
      refine pv_aloadn (pc := 17) (n := 0) 0 rfl rfl (fm_dec dtX11_factsAt 11 rfl) ?_
      refine pv_getR (k := 0) (j := 16) (ci := 11) (pc := 18) 19 rfl (by decide) pfl_X11_37 (by decide) rfl (by decide) (fm_dec dtX11_factsAt 12 rfl) ?_
      refine pv_iload (pc := 21) (i := 4) rfl (fm_dec dtX11_factsAt 13 rfl) ?_
      refine pv_aald (k := 19) (n := 24) (r := (67 + n)) (pc := 23) (by decide) (Or.inr (Or.inr rfl)) rfl (rw_fact.inb hi h24) (rw_fact.at hi h24) (rw_fact.2.2.2 _ h24).2.1 (fm_dec dtX11_factsAt 14 rfl) ?_
      refine pv_iconst (pc := 24) (v := 0) (by decide) (fm_dec dtX11_factsAt 15 rfl) ?_
      refine pv_iald (k := (67 + n)) (n := 3) (pc := 25) (rw_fact.2.2.2 _ h24).2.2.1 (rw_fact.2.2.2 _ h24).2.2.2.1 (rw_fact.2.2.2 _ h24).2.2.2.2 (fm_inl (by decide)) (fm_dec dtX11_factsAt 16 rfl) ?_
      refine pv_iloadn (pc := 26) (n := 1) 1 rfl rfl (fm_dec dtX11_factsAt 17 rfl) ?_
      refine pv_icmp_ne (pc := 27) 57 (by decide) (fm_dec dtX11_factsAt 18 rfl) (fun hc27 => ?_) (fun hc27 => ?_)
      · refine pv_iconst (pc := 57) (v := 0) (by decide) (fm_dec dtX11_factsAt 36 rfl) ?_
        refine pv_ixor (pc := 58) (fm_dec dtX11_factsAt 37 rfl) ?_
        refine pv_istoren (pc := 59) (n := 3) 3 rfl (by decide) rfl (fm_dec dtX11_factsAt 38 rfl) ?_
        dsimp only [List.set_cons_zero, List.set_cons_succ]
        refine pv_iincc (pc := 60) 4 1 (by decide) rfl (by decide) rfl (fm_dec dtX11_factsAt 39 rfl) ?_
        dsimp only [List.set_cons_zero, List.set_cons_succ]
        refine pv_goto (pc := 63) 5 (by decide) (fm_dec dtX11_factsAt 40 rfl) ?_
        have e9 : fbS D li.toInt wk.toInt (n + 1) = fbS D li.toInt wk.toInt n := fb_no (by intro h9; apply hc27; apply i32_ext; omega)
        rw [xor6z _ (fb_64 hD n (by omega)), ← e9]
        exact ih (D.2.2.1 - (n + 1)) (by omega) (n + 1) (i + 1) (i32_p1 hi (by omega)) (by omega) rfl hq
      · refine pv_aloadn (pc := 30) (n := 0) 0 rfl rfl (fm_dec dtX11_factsAt 19 rfl) ?_
        refine pv_getR (k := 0) (j := 16) (ci := 11) (pc := 31) 19 rfl (by decide) pfl_X11_37 (by decide) rfl (by decide) (fm_dec dtX11_factsAt 20 rfl) ?_
        refine pv_iload (pc := 34) (i := 4) rfl (fm_dec dtX11_factsAt 21 rfl) ?_
        refine pv_aald (k := 19) (n := 24) (r := (67 + n)) (pc := 36) (by decide) (Or.inr (Or.inr rfl)) rfl (rw_fact.inb hi h24) (rw_fact.at hi h24) (rw_fact.2.2.2 _ h24).2.1 (fm_dec dtX11_factsAt 22 rfl) ?_
        refine pv_iconst (pc := 37) (v := 2) (by decide) (fm_dec dtX11_factsAt 23 rfl) ?_
        refine pv_iald (k := (67 + n)) (n := 3) (pc := 38) (rw_fact.2.2.2 _ h24).2.2.1 (rw_fact.2.2.2 _ h24).2.2.2.1 (rw_fact.2.2.2 _ h24).2.2.2.2 (fm_inl (by decide)) (fm_dec dtX11_factsAt 24 rfl) ?_
        refine pv_iloadn (pc := 39) (n := 2) 2 rfl rfl (fm_dec dtX11_factsAt 25 rfl) ?_
        refine pv_icmp_gt (pc := 40) 57 (by decide) (fm_dec dtX11_factsAt 26 rfl) (fun hc40 => ?_) (fun hc40 => ?_)
        · refine pv_iconst (pc := 57) (v := 0) (by decide) (fm_dec dtX11_factsAt 36 rfl) ?_
          refine pv_ixor (pc := 58) (fm_dec dtX11_factsAt 37 rfl) ?_
          refine pv_istoren (pc := 59) (n := 3) 3 rfl (by decide) rfl (fm_dec dtX11_factsAt 38 rfl) ?_
          dsimp only [List.set_cons_zero, List.set_cons_succ]
          refine pv_iincc (pc := 60) 4 1 (by decide) rfl (by decide) rfl (fm_dec dtX11_factsAt 39 rfl) ?_
          dsimp only [List.set_cons_zero, List.set_cons_succ]
          refine pv_goto (pc := 63) 5 (by decide) (fm_dec dtX11_factsAt 40 rfl) ?_
          have e9 : fbS D li.toInt wk.toInt (n + 1) = fbS D li.toInt wk.toInt n := fb_no (by intro h9; rw [sc_lt] at hc40; omega)
          rw [xor6z _ (fb_64 hD n (by omega)), ← e9]
          exact ih (D.2.2.1 - (n + 1)) (by omega) (n + 1) (i + 1) (i32_p1 hi (by omega)) (by omega) rfl hq
        · refine pv_iconst (pc := 43) (v := 1) (by decide) (fm_dec dtX11_factsAt 27 rfl) ?_
          refine pv_aloadn (pc := 44) (n := 0) 0 rfl rfl (fm_dec dtX11_factsAt 28 rfl) ?_
          refine pv_getR (k := 0) (j := 16) (ci := 11) (pc := 45) 19 rfl (by decide) pfl_X11_37 (by decide) rfl (by decide) (fm_dec dtX11_factsAt 29 rfl) ?_
          refine pv_iload (pc := 48) (i := 4) rfl (fm_dec dtX11_factsAt 30 rfl) ?_
          refine pv_aald (k := 19) (n := 24) (r := (67 + n)) (pc := 50) (by decide) (Or.inr (Or.inr rfl)) rfl (rw_fact.inb hi h24) (rw_fact.at hi h24) (rw_fact.2.2.2 _ h24).2.1 (fm_dec dtX11_factsAt 31 rfl) ?_
          refine pv_iconst (pc := 51) (v := 1) (by decide) (fm_dec dtX11_factsAt 32 rfl) ?_
          refine pv_iald (k := (67 + n)) (n := 3) (pc := 52) (rw_fact.2.2.2 _ h24).2.2.1 (rw_fact.2.2.2 _ h24).2.2.2.1 (rw_fact.2.2.2 _ h24).2.2.2.2 (fm_inl (by decide)) (fm_dec dtX11_factsAt 33 rfl) ?_
          refine pv_ishl (pc := 53) (fm_dec dtX11_factsAt 34 rfl) ?_
          refine pv_goto (pc := 54) 58 (by decide) (fm_dec dtX11_factsAt 35 rfl) ?_
          refine pv_ixor (pc := 58) (fm_dec dtX11_factsAt 37 rfl) ?_
          refine pv_istoren (pc := 59) (n := 3) 3 rfl (by decide) rfl (fm_dec dtX11_factsAt 38 rfl) ?_
          dsimp only [List.set_cons_zero, List.set_cons_succ]
          refine pv_iincc (pc := 60) 4 1 (by decide) rfl (by decide) rfl (fm_dec dtX11_factsAt 39 rfl) ?_
          dsimp only [List.set_cons_zero, List.set_cons_succ]
          refine pv_goto (pc := 63) 5 (by decide) (fm_dec dtX11_factsAt 40 rfl) ?_
          obtain ⟨k, hk6, hk, hkx⟩ := kd_d hD hn f1
          have e9 : fbS D li.toInt wk.toInt (n + 1) = fbS D li.toInt wk.toInt n ^^^ 1 <<< k := fb_go ⟨by rw [← f0, hc27], by rw [sc_lt] at hc40; omega⟩ hk
          rw [hkx, (xor6 _ (fb_64 hD n (by omega)) k hk6).1, ← e9]
          exact ih (D.2.2.1 - (n + 1)) (by omega) (n + 1) (i + 1) (i32_p1 hi (by omega)) (by omega) rfl hq
set_option maxRecDepth 20000 in
theorem c_mfb {M : fmM} {Q : fmR → fmM → Prop} {li wk : Int32} {D : dD} (hD : dOk D) (hY : mdw M D) (hq : Q (.inl (some (.int (nI (fbA D li.toInt wk.toInt))))) M) : pvGood Tm 0 qX11_factsAt [.ref 0, .int li, .int wk] M Q := by
  refine pvGood_of (Nat.le_of_ble_eq_true rfl) ?_
  show pvEv Tm 0 qX11_factsAt 0 [some (.ref 0), some (.int li), some (.int wk), none, none] [] M Q
  refine pv_iconst (pc := 0) (v := 0) (by decide) (fm_dec dtX11_factsAt 0 rfl) ?_
  refine pv_istoren (pc := 1) (n := 3) 3 rfl (by decide) rfl (fm_dec dtX11_factsAt 1 rfl) ?_
  dsimp only [List.set_cons_zero, List.set_cons_succ]
  refine pv_iconst (pc := 2) (v := 0) (by decide) (fm_dec dtX11_factsAt 2 rfl) ?_
  refine pv_istore (pc := 3) (i := 4) (by decide) rfl (fm_dec dtX11_factsAt 3 rfl) ?_
  dsimp only [List.set_cons_zero, List.set_cons_succ]
  exact mf_loop hD hY D.2.2.1 0 0 (by decide) (by omega) (by omega) hq
end
-- P 18u
section
-- THE CLASS READS WORKS
def wFr (b : Nat) (M M' : fmM) : Prop := (∀ k j, k ≠ 1 → ¬ (k = 28 ∧ j = 3) → ¬ (29 ≤ k ∧ k ≤ 31 ∧ b ≤ j) → M'.1 k j = M.1 k j) ∧ (∀ k j, k ≠ 1 → ¬ (28 ≤ k ∧ k ≤ 31) → M'.2 k j = M.2 k j) ∧ (∀ j, j ≠ 3 → j ≠ 4 → j ≠ 5 → M'.1 1 j = M.1 1 j)
def wRep (M : fmM) (b : Nat) (ss : tS) : Prop := ∀ i s, ss[i]? = some s → (M.1 29 (b + i)).toInt = (s.1 : Int) ∧ (M.1 30 (b + i)).toInt = (s.2.1 : Int) ∧ (s.1 = 4 → (M.1 31 (b + i)).toInt = (s.2.2 : Int))
def wPre (M : fmM) (tx : tX) (n p b : Nat) : Prop := xS2 M tx n p ∧ M.1 1 4 = 0 ∧ scInv Tx invX M ∧ (M.1 28 3).toInt = (b : Int) ∧ 2 * b ≤ p ∧ n ≤ 150
def wOk (M M' : fmM) (tx : tX) (n q b : Nat) (ss : tS) : Prop := xS2 M' tx n q ∧ M'.1 1 4 = 0 ∧ scInv Tx invX M' ∧ (M'.1 28 3).toInt = ((b + ss.length : Nat) : Int) ∧ wRep M' b ss ∧ wFr b M M'
def wBad (M M' : fmM) (k a : Nat) : Prop := (M'.1 1 4).toInt = (k : Int) ∧ (M'.1 1 5).toInt = (a : Int) ∧ k ≠ 0 ∧ scInv Tx invX M' ∧ wFr 0 M M'
theorem wFr.refl (b : Nat) (M : fmM) : wFr b M M := ⟨fun _ _ _ _ _ => rfl, fun _ _ _ _ => rfl, fun _ _ _ _ => rfl⟩
theorem wFr.trans {b b' : Nat} {M M1 M2 : fmM} (h : wFr b M M1) (h' : wFr b' M1 M2) (hm : b ≤ b') : wFr b M M2 := ⟨fun k j a b c => (h'.1 k j a b (by omega)).trans (h.1 k j a b c), fun k j a b => (h'.2.1 k j a b).trans (h.2.1 k j a b), fun j a b c => (h'.2.2 j a b c).trans (h.2.2 j a b c)⟩
theorem wFr.zero {b : Nat} {M M1 : fmM} (h : wFr b M M1) : wFr 0 M M1 := ⟨fun k j a b c => h.1 k j a b (by omega), h.2.1, h.2.2⟩
theorem wFr.tr0 {b b' : Nat} {M M1 M2 : fmM} (h : wFr b M M1) (h' : wFr b' M1 M2) : wFr 0 M M2 := wFr.trans h.zero h'.zero (Nat.le_refl _)
theorem xdFr.w {M M1 : fmM} (h : xdFr M M1) (b : Nat) : wFr b M M1 := ⟨fun k j a _ _ => (h.1 k j a).1, fun k j a _ => (h.1 k j a).2, h.2⟩
theorem wFr.put {b k j : Nat} {M M1 : fmM} {x : Int32} (h : wFr b M M1) (hk : (k = 28 ∧ j = 3) ∨ (29 ≤ k ∧ k ≤ 31 ∧ b ≤ j)) : wFr b M (fmI M1 k j x) := by
  refine ⟨fun k' j' a b' c => ?_, fun k' j' a b' => h.2.1 k' j' a b', fun j' a b' c => ?_⟩
  · rw [fmI_at, if_neg (by omega)]
    exact h.1 k' j' a b' c
  · rw [fmI_k _ _ (by omega)]
    exact h.2.2 j' a b' c
theorem wRep.fr {M M' : fmM} {b b' : Nat} {ss : tS} (h : wRep M b ss) (hf : wFr b' M M') (hm : b + ss.length ≤ b') : wRep M' b ss := fun i c hi => by
  have hl : i < ss.length := (List.getElem?_eq_some_iff.mp hi).1
  rw [hf.1 29 (b + i) (by decide) (by omega) (by omega), hf.1 30 (b + i) (by decide) (by omega) (by omega), hf.1 31 (b + i) (by decide) (by omega) (by omega)]
  exact h i c hi
theorem wRep.app {M : fmM} {b : Nat} {ss ts : tS} (h : wRep M b ss) (h' : wRep M (b + ss.length) ts) : wRep M b (ss ++ ts) := fun i c hi => by
  by_cases e : i < ss.length
  · rw [List.getElem?_append_left e] at hi
    exact h i c hi
  · rw [List.getElem?_append_right (by omega)] at hi
    have h9 := h' (i - ss.length) c hi
    rw [show b + ss.length + (i - ss.length) = b + i by omega] at h9
    exact h9
theorem wOk.trans {M M1 M2 : fmM} {tx : tX} {n q1 q2 b : Nat} {ss ts : tS} (h : wOk M M1 tx n q1 b ss) (h' : wOk M1 M2 tx n q2 (b + ss.length) ts) : wOk M M2 tx n q2 b (ss ++ ts) := ⟨h'.1, h'.2.1, h'.2.2.1, by rw [List.length_append, ← Nat.add_assoc]; exact h'.2.2.2.1, (h.2.2.2.2.1.fr h'.2.2.2.2.2 (Nat.le_refl _)).app h'.2.2.2.2.1, h.2.2.2.2.2.trans h'.2.2.2.2.2 (by omega)⟩
theorem wOk.xd {M M1 M2 : fmM} {tx : tX} {n q1 q2 b : Nat} {ss : tS} (h : wOk M M1 tx n q1 b ss) (h' : xdOk M1 M2 tx n q2) : wOk M M2 tx n q2 b ss := ⟨h'.1, h'.2.1, h'.2.2.2, by rw [(h'.2.2.1.1 28 3 (by decide)).1]; exact h.2.2.2.1, h.2.2.2.2.1.fr (h'.2.2.1.w (b + ss.length)) (Nat.le_refl _), h.2.2.2.2.2.trans (h'.2.2.1.w b) (Nat.le_refl _)⟩
theorem wOk.pre {M0 M M1 : fmM} {tx : tX} {n q b : Nat} {ss : tS} (h : xdFr M0 M) (h' : wOk M M1 tx n q b ss) : wOk M0 M1 tx n q b ss := ⟨h'.1, h'.2.1, h'.2.2.1, h'.2.2.2.1, h'.2.2.2.2.1, (h.w b).trans h'.2.2.2.2.2 (Nat.le_refl _)⟩
theorem wOk.xdb {M M1 M2 : fmM} {tx : tX} {n q1 b k a : Nat} {ss : tS} (h : wOk M M1 tx n q1 b ss) (h' : xdBad M1 M2 k a) : wBad M M2 k a := ⟨h'.1, h'.2.1, h'.2.2.1, h'.2.2.2.2, h.2.2.2.2.2.tr0 (h'.2.2.2.1.w b)⟩
theorem wOk.bad {M M1 M2 : fmM} {tx : tX} {n q1 b k a : Nat} {ss : tS} (h : wOk M M1 tx n q1 b ss) (h' : wBad M1 M2 k a) : wBad M M2 k a := ⟨h'.1, h'.2.1, h'.2.2.1, h'.2.2.2.1, h.2.2.2.2.2.tr0 h'.2.2.2.2⟩
theorem wBad.pre {M0 M M1 : fmM} {k a b : Nat} (h : wFr b M0 M) (h' : wBad M M1 k a) : wBad M0 M1 k a := ⟨h'.1, h'.2.1, h'.2.2.1, h'.2.2.2.1, h.tr0 h'.2.2.2.2⟩
theorem xdBad.wb {M0 M M1 : fmM} {k a b : Nat} (h : wFr b M0 M) (h' : xdBad M M1 k a) : wBad M0 M1 k a := ⟨h'.1, h'.2.1, h'.2.2.1, h'.2.2.2.2, h.tr0 (h'.2.2.2.1.w b)⟩
theorem wPre.xd {M M1 : fmM} {tx : tX} {n p q b : Nat} (h : wPre M tx n p b) (k : xdOk M M1 tx n q) (hq : p ≤ q) : wPre M1 tx n q b := ⟨k.1, k.2.1, k.2.2.2, by rw [(k.2.2.1.1 28 3 (by decide)).1]; exact h.2.2.2.1, by have := h.2.2.2.2.1; omega, h.2.2.2.2.2⟩
theorem wPre.next {M M1 : fmM} {tx : tX} {n p q b : Nat} {ss : tS} (h : wPre M tx n p b) (k : wOk M M1 tx n q b ss) (hq : p + 2 * ss.length ≤ q) : wPre M1 tx n q (b + ss.length) := ⟨k.1, k.2.1, k.2.2.1, k.2.2.2.1, by have := h.2.2.2.2.1; omega, h.2.2.2.2.2⟩
theorem wPre.nil {M : fmM} {tx : tX} {n p b : Nat} (h : wPre M tx n p b) : wOk M M tx n p b [] := ⟨h.1, h.2.1, h.2.2.1, h.2.2.2.1, fun i c hi => (by cases hi), wFr.refl b M⟩
theorem wBad.nz {M M' : fmM} {k a : Nat} (h : wBad M M' k a) : ¬ M'.1 1 4 = 0 := by
  intro e
  have h1 := h.1
  rw [e] at h1
  have e0 : (0 : Int32).toInt = 0 := by decide
  have := h.2.2.1
  omega
theorem stK_of {w : List Int} {j : Nat} (h : wdI wsWork w 0 = some j) : stK w = some j ∧ j < 5 := by
  simp only [wdI, wsWork] at h
  repeat' split at h
  all_goals first | (injection h with h; subst h; rename_i h9; subst h9; exact ⟨by decide, by decide⟩) | cases h
theorem stK_no {w : List Int} (h : wdI wsWork w 0 = none) : stK w = none := by
  simp only [wdI, wsWork] at h
  repeat' split at h
  all_goals first | (cases h; done) | skip
  rename_i h0 h1 h2 h3 h4
  unfold stK
  rw [if_neg h0, if_neg h1, if_neg h2, if_neg h3, if_neg h4]
def sgS (tx : tX) (ss : tS) (q : Nat) : tR tS := spBind (spSign tx 59 q) fun _ q => .inr (ss, q)
def bSi (tx : tX) (l k b q : Nat) : tR tS := spBind (spNum tx 0 ((l : Int) - 1) q) fun v q => .inr ([(k, v, b + 1)], q)
def bAg (tx : tX) (rc : Nat → tR tS) (b q : Nat) : tR tS := spBind (spNum tx 0 20 q) fun v q => spBind (spSign tx 91 q) fun _ q => spBind (rc (sk tx q)) fun ss q => spBind (spSign tx 93 q) fun _ q => .inr ((4, v, b + 1 + ss.length) :: ss, q)
def bOne (tx : tX) (l : Nat) (rc : Nat → tR tS) (o b p : Nat) : tR tS := match stK (wd tx (sk tx p)) with
  | none => .inl (1, sk tx p)
  | some k => if k = 4 then (if o = 6 then .inl (3, sk tx p) else bAg tx rc b (sp tW tx (sk tx p))) else if k = 3 then .inr ([(3, 0, b + 1)], sp tW tx (sk tx p)) else bSi tx l k b (sp tW tx (sk tx p))
theorem one_B (tx : tX) (l : Nat) (rc : Nat → tR tS) (o b p : Nat) : spOneS tx l rc o b p = spBind (bOne tx l rc o b p) (sgS tx) := by
  unfold spOneS bOne
  cases stK (wd tx (sk tx p)) with
  | none => rfl
  | some k =>
    by_cases h4 : k = 4
    · simp only [if_pos h4]
      by_cases h6 : o = 6
      · simp only [if_pos h6]
        rfl
      · simp only [if_neg h6]
        unfold spAg bAg
        simp only [spBind_a]
        rfl
    · simp only [if_neg h4]
      by_cases h3 : k = 3
      · simp only [if_pos h3]
        rfl
      · simp only [if_neg h3]
        unfold spSi bSi
        simp only [spBind_a]
        rfl
theorem bo_n {tx : tX} {l o b p : Nat} {rc : Nat → tR tS} (h : stK (wd tx (sk tx p)) = none) : bOne tx l rc o b p = .inl (1, sk tx p) := by
  unfold bOne
  rw [h]
theorem bo_6 {tx : tX} {l b p : Nat} {rc : Nat → tR tS} (h : stK (wd tx (sk tx p)) = some 4) : bOne tx l rc 6 b p = .inl (3, sk tx p) := by
  unfold bOne
  rw [h]
  rfl
theorem bo_4 {tx : tX} {l o b p : Nat} {rc : Nat → tR tS} (h : stK (wd tx (sk tx p)) = some 4) (ho : ¬ o = 6) : bOne tx l rc o b p = bAg tx rc b (sp tW tx (sk tx p)) := by
  unfold bOne
  rw [h]
  simp only [if_true, if_neg ho]
theorem bo_3 {tx : tX} {l o b p : Nat} {rc : Nat → tR tS} (h : stK (wd tx (sk tx p)) = some 3) : bOne tx l rc o b p = .inr ([(3, 0, b + 1)], sp tW tx (sk tx p)) := by
  unfold bOne
  rw [h]
  rfl
theorem bo_s {tx : tX} {l o b p k : Nat} {rc : Nat → tR tS} (h : stK (wd tx (sk tx p)) = some k) (h4 : ¬ k = 4) (h3 : ¬ k = 3) : bOne tx l rc o b p = bSi tx l k b (sp tW tx (sk tx p)) := by
  unfold bOne
  rw [h]
  simp only [if_neg h4, if_neg h3]
def wE (Q : fmR → fmM → Prop) (M : fmM) (tx : tX) (n b : Nat) (r : tR tS) : Prop := (∀ (M' : fmM) (ss : tS) (q : Nat), r = .inr (ss, q) → wOk M M' tx n q b ss → Q (.inl (some (.int 1))) M') ∧ ∀ (M' : fmM) (k a : Nat), r = .inl (k, a) → wBad M M' k a → Q (.inl (some (.int 0))) M'
/-- steps up to a bracket -/
def wG1 (tx : tX) (n l f : Nat) : Prop := ∀ (o b p : Nat) (M : fmM) (Q : fmR → fmM → Prop) (lv op : Int32), 1 ≤ o → o ≤ 6 → wPre M tx n p b → lv.toInt = (l : Int) → l ≤ 8 → op.toInt = (o : Int) → ¬ spSt tx l f 1 o b (sk tx p) = .inl (9, 0) → wE Q M tx n b (spSt tx l f 1 o b (sk tx p)) → pvGood Tx (8 + 3 * (6 - o)) qX9_readSteps [.ref 28, .ref 1, .int lv, .int op] M Q
/-- one step, without its sign -/
def wG0 (tx : tX) (n l f : Nat) : Prop := ∀ (o b p : Nat) (M : fmM) (Q : fmR → fmM → Prop) (lv op : Int32), o ≤ 6 → wPre M tx n p b → lv.toInt = (l : Int) → l ≤ 8 → op.toInt = (o : Int) → ¬ bOne tx l (fun q => spSt tx l f 1 (o + 1) (b + 1) q) o b p = .inl (9, 0) → wE Q M tx n b (bOne tx l (fun q => spSt tx l f 1 (o + 1) (b + 1) q) o b p) → pvGood Tx (7 + 3 * (6 - o)) qX9_readStep [.ref 28, .ref 1, .int lv, .int op] M Q
theorem st_fr {M0 M : fmM} {w : Int32} {b : Nat} (h : wFr b M0 M) : wFr b M0 (stpM M w b) := (h.put (Or.inl ⟨rfl, rfl⟩)).put (Or.inr ⟨by decide, by decide, Nat.le_refl _⟩)
theorem st_S {M : fmM} {tx : tX} {n q b : Nat} {w : Int32} (h : xS2 M tx n q) : xS2 (stpM M w b) tx n q := h.of rfl rfl rfl
theorem nu_S {M : fmM} {tx : tX} {n q k b : Nat} {w : Int32} (h : xS2 M tx n q) (hk : k = 30 ∨ k = 31) : xS2 (fmI M k b w) tx n q := by
  rcases hk with rfl | rfl <;> exact h.of rfl rfl rfl
/-- one step that is no again -/
theorem w_one {M0 M2 : fmM} {tx : tX} {n q b k v : Nat} {w x : Int32} (hS : xS2 M2 tx n q) (hf : M2.1 1 4 = 0) (hI : scInv Tx invX (fmI M2 30 b x)) (hz : (M2.1 28 3).toInt = ((b + 1 : Nat) : Int)) (hk : (M2.1 29 b).toInt = (k : Int)) (hx : x.toInt = (v : Int)) (h4 : ¬ k = 4) (hF : wFr b M0 M2) : wOk M0 (fmI M2 30 b x) tx n q b [(k, v, b + 1)] := by
  refine ⟨nu_S hS (Or.inl rfl), hf, hI, ?_, fun i c hi => ?_, hF.put (Or.inr ⟨by decide, by decide, Nat.le_refl _⟩)⟩
  · rw [fmI_k _ _ (by decide)]
    exact hz
  · cases i with
    | succ i => cases hi
    | zero =>
      cases hi
      refine ⟨?_, ?_, fun h => absurd h h4⟩
      · rw [fmI_k _ _ (by decide), Nat.add_zero]
        exact hk
      · rw [Nat.add_zero, fmI_s]
        exact hx
/-- an again, closed -/
theorem w_ag {M0 M2 M3 M4 : fmM} {tx : tX} {n q q' b v : Nat} {ss : tS} {x : Int32} (hF : wFr b M0 M2) (hk : (M2.1 29 b).toInt = ((4 : Nat) : Int)) (hv : (M2.1 30 b).toInt = (v : Int)) (h3 : wOk M2 M3 tx n q (b + 1) ss) (h4 : xdOk M3 M4 tx n q') (hI : scInv Tx invX (fmI M4 31 b x)) (hx : x = M4.1 28 3) : wOk M0 (fmI M4 31 b x) tx n q' b ((4, v, b + 1 + ss.length) :: ss) := by
  have h3 := h3.xd h4
  have e28 : (M4.1 28 3).toInt = ((b + 1 + ss.length : Nat) : Int) := h3.2.2.2.1
  refine ⟨nu_S h3.1 (Or.inr rfl), h3.2.1, hI, ?_, fun i c hi => ?_, ?_⟩
  · rw [fmI_k _ _ (by decide), e28, List.length_cons]
    congr 1
    omega
  · cases i with
    | zero =>
      cases hi
      rw [Nat.add_zero, fmI_k _ _ (by decide), fmI_k _ _ (by decide), fmI_s]
      refine ⟨?_, ?_, fun _ => ?_⟩
      · rw [h3.2.2.2.2.2.1 29 b (by decide) (by omega) (by omega)]
        exact hk
      · rw [h3.2.2.2.2.2.1 30 b (by decide) (by omega) (by omega)]
        exact hv
      · rw [hx]
        exact e28
    | succ i =>
      have h9 := h3.2.2.2.2.1 i c hi
      rw [show b + (i + 1) = b + 1 + i by omega, fmI_k _ _ (by decide), fmI_k _ _ (by decide), fmI_at, if_neg (by omega)]
      exact h9
  · exact (hF.trans h3.2.2.2.2.2 (Nat.le_succ _)).put (Or.inr ⟨by decide, by decide, Nat.le_refl _⟩)
theorem wOk.frm {M0 M M1 : fmM} {tx : tX} {n q b : Nat} {ss : tS} (h : wFr b M0 M) (h' : wOk M M1 tx n q b ss) : wOk M0 M1 tx n q b ss := ⟨h'.1, h'.2.1, h'.2.2.1, h'.2.2.2.1, h'.2.2.2.2.1, h.trans h'.2.2.2.2.2 (Nat.le_refl _)⟩
theorem stK_4 {w : List Int} (h : stK w = some 4) : w.length = 5 := by
  unfold stK at h
  repeat' split at h
  all_goals first | (rename_i e; subst e; rfl) | (injection h with h; exact absurd h (by decide)) | cases h
theorem ss_e {tx : tX} {l f o b a : Nat} (ht : tx a = 93) : spSt tx l (f + 1) 1 o b a = .inr ([], a) := if_pos ht
theorem ss_b {tx : tX} {l f o b a : Nat} {e : Nat × Nat} (ht : ¬ tx a = 93) (h : spSt tx l f 0 o b a = .inl e) : spSt tx l (f + 1) 1 o b a = .inl e := by
  show (if tx a = 93 then _ else spBind (spSt tx l f 0 o b a) _) = _
  rw [if_neg ht, h]
  rfl
theorem ss_s {tx : tX} {l f o b a q : Nat} {ss : tS} (ht : ¬ tx a = 93) (h : spSt tx l f 0 o b a = .inr (ss, q)) : spSt tx l (f + 1) 1 o b a = spBind (spSt tx l f 1 o (b + ss.length) (sk tx q)) fun ts q => .inr (ss ++ ts, q) := by
  show (if tx a = 93 then _ else spBind (spSt tx l f 0 o b a) _) = _
  rw [if_neg ht, h]
  rfl
theorem o_ok {tx : tX} {l f o b a q q2 : Nat} {ss : tS} (h : bOne tx l (fun q => spSt tx l f 1 (o + 1) (b + 1) q) o b a = .inr (ss, q)) (h2 : spSign tx 59 q = .inr ((), q2)) : spSt tx l (f + 1) 0 o b a = .inr (ss, q2) := by
  refine (one_B tx l _ o b a).trans ?_
  rw [h]
  show spBind (spSign tx 59 q) _ = _
  rw [h2]
  rfl
theorem o_b1 {tx : tX} {l f o b a : Nat} {e : Nat × Nat} (h : bOne tx l (fun q => spSt tx l f 1 (o + 1) (b + 1) q) o b a = .inl e) : spSt tx l (f + 1) 0 o b a = .inl e := by
  refine (one_B tx l _ o b a).trans ?_
  rw [h]
  rfl
theorem o_b2 {tx : tX} {l f o b a q : Nat} {ss : tS} {e : Nat × Nat} (h : bOne tx l (fun q => spSt tx l f 1 (o + 1) (b + 1) q) o b a = .inr (ss, q)) (h2 : spSign tx 59 q = .inl e) : spSt tx l (f + 1) 0 o b a = .inl e := by
  refine (one_B tx l _ o b a).trans ?_
  rw [h]
  show spBind (spSign tx 59 q) _ = _
  rw [h2]
  rfl
/-- the inside of an again, behind its word -/
def wAg (tx : tX) (n l f : Nat) : Prop := ∀ (o b q : Nat) (M : fmM) (Q : fmR → fmM → Prop) (lv op a : Int32), 1 ≤ o → o ≤ 6 → xS2 M tx n q → M.1 1 4 = 0 → scInv Tx invX M → (M.1 28 3).toInt = ((b + 1 : Nat) : Int) → (M.1 29 b).toInt = ((4 : Nat) : Int) → 2 * (b + 1) ≤ q → n ≤ 150 → lv.toInt = (l : Int) → l ≤ 8 → op.toInt = (o : Int) → a.toInt = (b : Int) → ¬ bAg tx (fun q => spSt tx l f 1 o (b + 1) q) b q = .inl (9, 0) → wE Q M tx n b (bAg tx (fun q => spSt tx l f 1 o (b + 1) q) b q) → pvGood Tx (9 + 3 * (6 - o)) qX9_readAgain [.ref 28, .ref 1, .int lv, .int op, .int a] M Q
set_option maxRecDepth 20000 in
theorem wa_G {tx : tX} {n l f : Nat} (h1 : wG1 tx n l f) : wAg tx n l f := by
  intro o b q M Q lv op a ho1 ho6 hS hf hI hz hk hbq hn hlv hl8 hop ha hne hE
  have hqn := hS.2.2.1
  have hb9 : b < 150 := (by omega)
  refine pvGood_of (Nat.le_of_ble_eq_true rfl) ?_
  show pvEv Tx (9 + 3 * (6 - o)) qX9_readAgain 0 [some (.ref 28), some (.ref 1), some (.int lv), some (.int op), some (.int a)] [] M Q
  refine pv_aloadn (pc := 0) (n := 0) 0 rfl rfl (fm_dec dtX9_readAgain 0 rfl) ?_
  refine pv_getR (k := 28) (j := 1) (ci := 9) (pc := 1) 30 rfl (by decide) pfl_X9_15 (by decide) rfl (by decide) (fm_dec dtX9_readAgain 1 rfl) ?_
  refine pv_iload (pc := 4) (i := 4) rfl (fm_dec dtX9_readAgain 2 rfl) ?_
  refine pv_aloadn (pc := 6) (n := 1) 1 rfl rfl (fm_dec dtX9_readAgain 3 rfl) ?_
  refine pv_iconst (pc := 7) (v := 0) (by decide) (fm_dec dtX9_readAgain 4 rfl) ?_
  refine pv_bipush (pc := 8) (v := 20) (by decide) (fm_dec dtX9_readAgain 5 rfl) ?_
  refine pv_invV2 (k := 1) (d' := 2) (pc := 10) pcv_X9_68 (by decide) rfl (Nat.le_of_ble_eq_true rfl) (by omega) (fm_dec dtX9_readAgain 6 rfl) ?_
  refine x_numC 0 20 (by decide) (by decide) (by decide) hS hf hI (fun M10 v10 q10 w10 e10 hw10 k10 => ?_) (fun M10 kb ab e10 b10 => ?_)
  · refine pv_then1 ?_
    refine pv_iast (k := 30) (n := 150) (pc := 13) (by decide) rfl rfl (ix_in ha hb9) (fm_dec dtX9_readAgain 7 rfl) ?_
    rw [i32_cl ha]
    have n10 := spNum_ok hS.2.2.2.1 hS.2.2.1 e10
    have hI13 : scInv Tx invX (fmI M10 30 b w10) := xInv.put k10.2.2.2 (by rw [xi_30]; omega)
    have FA : wFr b M (fmI M10 30 b w10) := (k10.2.2.1.w b).put (Or.inr ⟨by decide, by decide, Nat.le_refl _⟩)
    refine pv_aloadn (pc := 14) (n := 1) 1 rfl rfl (fm_dec dtX9_readAgain 8 rfl) ?_
    refine pv_invV0 (k := 1) (d' := 0) (pc := 15) pcv_X9_72 (by decide) rfl (Nat.le_of_ble_eq_true rfl) (by omega) (fm_dec dtX9_readAgain 9 rfl) ?_
    refine c_xfailed (fun _ => ?_) (fun h9 => absurd k10.2.1 h9) 
    refine pv_then1 ?_
    refine pv_if_ne (pc := 18) 49 (by decide) (fm_dec dtX9_readAgain 10 rfl) (fun hc18 => by exfalso; revert hc18; decide) (fun _ => ?_)
    refine pv_aloadn (pc := 21) (n := 1) 1 rfl rfl (fm_dec dtX9_readAgain 11 rfl) ?_
    refine pv_bipush (pc := 22) (v := 91) (by decide) (fm_dec dtX9_readAgain 12 rfl) ?_
    refine pv_invV1 (k := 1) (d' := 1) (pc := 24) pcv_X9_47 (by decide) rfl (Nat.le_of_ble_eq_true rfl) (by omega) (fm_dec dtX9_readAgain 13 rfl) ?_
    refine x_signC 91 (by decide) (by decide) (nu_S k10.1 (Or.inl rfl)) k10.2.1 hI13 (fun M24 q24 e24 k24 => ?_) (fun M24 kb ab e24 b24 => ?_)
    · refine pv_then1 ?_
      have n24 := spSign_ok hS.2.2.2.1 k10.1.2.2.1 (by decide) e24
      have FB : wFr b M M24 := FA.trans (k24.2.2.1.w b) (Nat.le_refl _)
      have hP24 : wPre M24 tx n q24 (b + 1) := ⟨k24.1, k24.2.1, k24.2.2.2, (by rw [(k24.2.2.1.1 28 3 (by decide)).1, fmI_k _ _ (by decide), (k10.2.2.1.1 28 3 (by decide)).1]; exact hz), (by omega), hn⟩
      refine pv_if_eq (pc := 27) 49 (by decide) (fm_dec dtX9_readAgain 14 rfl) (fun hc27 => by exfalso; revert hc27; decide) (fun _ => ?_)
      refine pv_aloadn (pc := 30) (n := 0) 0 rfl rfl (fm_dec dtX9_readAgain 15 rfl) ?_
      refine pv_aloadn (pc := 31) (n := 1) 1 rfl rfl (fm_dec dtX9_readAgain 16 rfl) ?_
      refine pv_iloadn (pc := 32) (n := 2) 2 rfl rfl (fm_dec dtX9_readAgain 17 rfl) ?_
      refine pv_iloadn (pc := 33) (n := 3) 3 rfl rfl (fm_dec dtX9_readAgain 18 rfl) ?_
      refine pv_invV3 (k := 28) (d' := (8 + 3 * (6 - o))) (pc := 34) pcv_X9_34 (by decide) rfl (Nat.le_of_ble_eq_true rfl) (by omega) (fm_dec dtX9_readAgain 19 rfl) ?_
      refine h1 o (b + 1) q24 M24 _ lv op ho1 ho6 hP24 hlv hl8 hop (fun h9 => hne (by unfold bAg; simp only [spBind, e10, e24, h9])) ⟨fun M34 s34 q34 e34 k34 => ?_, fun M34 kb ab e34 b34 => ?_⟩  
      · refine pv_then1 ?_
        have FC : wFr b M M34 := FB.trans k34.2.2.2.2.2 (Nat.le_succ _)
        refine pv_if_eq (pc := 37) 49 (by decide) (fm_dec dtX9_readAgain 20 rfl) (fun hc37 => by exfalso; revert hc37; decide) (fun _ => ?_)
        refine pv_aloadn (pc := 40) (n := 1) 1 rfl rfl (fm_dec dtX9_readAgain 21 rfl) ?_
        refine pv_bipush (pc := 41) (v := 93) (by decide) (fm_dec dtX9_readAgain 22 rfl) ?_
        refine pv_invV1 (k := 1) (d' := 1) (pc := 43) pcv_X9_47 (by decide) rfl (Nat.le_of_ble_eq_true rfl) (by omega) (fm_dec dtX9_readAgain 23 rfl) ?_
        refine x_signC 93 (by decide) (by decide) k34.1 k34.2.1 k34.2.2.1 (fun M43 q43 e43 k43 => ?_) (fun M43 kb ab e43 b43 => ?_)
        · refine pv_then1 ?_
          refine pv_if_ne (pc := 46) 51 (by decide) (fm_dec dtX9_readAgain 24 rfl) (fun _ => ?_) (fun hc46 => by exfalso; revert hc46; decide)
          refine pv_aloadn (pc := 51) (n := 0) 0 rfl rfl (fm_dec dtX9_readAgain 27 rfl) ?_
          refine pv_getR (k := 28) (j := 2) (ci := 9) (pc := 52) 31 rfl (by decide) pfl_X9_18 (by decide) rfl (by decide) (fm_dec dtX9_readAgain 28 rfl) ?_
          refine pv_iload (pc := 55) (i := 4) rfl (fm_dec dtX9_readAgain 29 rfl) ?_
          refine pv_aloadn (pc := 57) (n := 0) 0 rfl rfl (fm_dec dtX9_readAgain 30 rfl) ?_
          refine pv_getI (k := 28) (j := 3) (ci := 9) (pc := 58) pfl_X9_21 (by decide) rfl (by decide) (fm_dec dtX9_readAgain 31 rfl) ?_
          refine pv_iast (k := 31) (n := 150) (pc := 61) (by decide) rfl rfl (ix_in ha hb9) (fm_dec dtX9_readAgain 32 rfl) ?_
          rw [i32_cl ha]
          refine pv_iconst (pc := 62) (v := 1) (by decide) (fm_dec dtX9_readAgain 33 rfl) ?_
          exact pv_zreturn (pc := 63) rfl (by first | exact Or.inr rfl | exact Or.inl rfl) (fm_dec dtX9_readAgain 34 rfl) (hE.1 _ ((4, v10, b + 1 + s34.length) :: s34) q43 (by unfold bAg; simp only [spBind, e10, e24, e34, e43]) (w_ag FB (by rw [(k24.2.2.1.1 29 b (by decide)).1, fmI_k _ _ (by decide), (k10.2.2.1.1 29 b (by decide)).1]; exact hk) (by rw [(k24.2.2.1.1 30 b (by decide)).1, fmI_s]; exact hw10) k34 k43 (xInv.put k43.2.2.2 (by rw [xi_31]; exact k43.2.2.2.1 28 3 (by decide))) rfl))
        · refine pv_then1 ?_
          refine pv_if_ne (pc := 46) 51 (by decide) (fm_dec dtX9_readAgain 24 rfl) (fun hc46 => by exfalso; revert hc46; decide) (fun _ => ?_)
          refine pv_iconst (pc := 49) (v := 0) (by decide) (fm_dec dtX9_readAgain 25 rfl) ?_
          exact pv_zreturn (pc := 50) rfl (by first | exact Or.inr rfl | exact Or.inl rfl) (fm_dec dtX9_readAgain 26 rfl) (hE.2 M43 kb ab (by unfold bAg; simp only [spBind, e10, e24, e34, e43]) (xdBad.wb FC b43))
      · refine pv_then1 ?_
        refine pv_if_eq (pc := 37) 49 (by decide) (fm_dec dtX9_readAgain 20 rfl) (fun _ => ?_) (fun hc37 => by exfalso; revert hc37; decide)
        refine pv_iconst (pc := 49) (v := 0) (by decide) (fm_dec dtX9_readAgain 25 rfl) ?_
        exact pv_zreturn (pc := 50) rfl (by first | exact Or.inr rfl | exact Or.inl rfl) (fm_dec dtX9_readAgain 26 rfl) (hE.2 M34 kb ab (by unfold bAg; simp only [spBind, e10, e24, e34]) (wBad.pre FB b34))
    · refine pv_then1 ?_
      refine pv_if_eq (pc := 27) 49 (by decide) (fm_dec dtX9_readAgain 14 rfl) (fun _ => ?_) (fun hc27 => by exfalso; revert hc27; decide)
      refine pv_iconst (pc := 49) (v := 0) (by decide) (fm_dec dtX9_readAgain 25 rfl) ?_
      exact pv_zreturn (pc := 50) rfl (by first | exact Or.inr rfl | exact Or.inl rfl) (fm_dec dtX9_readAgain 26 rfl) (hE.2 M24 kb ab (by unfold bAg; simp only [spBind, e10, e24]) (xdBad.wb FA b24))
  · refine pv_then1 ?_
    refine pv_iast (k := 30) (n := 150) (pc := 13) (by decide) rfl rfl (ix_in ha hb9) (fm_dec dtX9_readAgain 7 rfl) ?_
    rw [i32_cl ha]
    refine pv_aloadn (pc := 14) (n := 1) 1 rfl rfl (fm_dec dtX9_readAgain 8 rfl) ?_
    refine pv_invV0 (k := 1) (d' := 0) (pc := 15) pcv_X9_72 (by decide) rfl (Nat.le_of_ble_eq_true rfl) (by omega) (fm_dec dtX9_readAgain 9 rfl) ?_
    refine c_xfailed (fun h9 => absurd h9 b10.nz) (fun _ => ?_) 
    refine pv_then1 ?_
    refine pv_if_ne (pc := 18) 49 (by decide) (fm_dec dtX9_readAgain 10 rfl) (fun _ => ?_) (fun hc18 => by exfalso; revert hc18; decide)
    refine pv_iconst (pc := 49) (v := 0) (by decide) (fm_dec dtX9_readAgain 25 rfl) ?_
    exact pv_zreturn (pc := 50) rfl (by first | exact Or.inr rfl | exact Or.inl rfl) (fm_dec dtX9_readAgain 26 rfl) (hE.2 _ kb ab (by unfold bAg; simp only [spBind, e10]) ⟨b10.1, b10.2.1, b10.2.2.1, xInv.put b10.2.2.2.2 (by rw [xi_30]; decide), (b10.2.2.2.1.w 0).put (Or.inr ⟨by decide, by decide, Nat.zero_le _⟩)⟩)
set_option maxRecDepth 20000 in
theorem w0_G {tx : tX} {n l f : Nat} (hA : wAg tx n l f) : wG0 tx n l f := by
  intro o b p M Q lv op ho6 hP hlv hl8 hop hne hE
  have hpn := hP.1.2.2.1
  have hbp := hP.2.2.2.2.1
  have hn := hP.2.2.2.2.2
  have hb9 : b < 150 := (by omega)
  refine pvGood_of (Nat.le_of_ble_eq_true rfl) ?_
  show pvEv Tx (7 + 3 * (6 - o)) qX9_readStep 0 [some (.ref 28), some (.ref 1), some (.int lv), some (.int op), none, none, none] [] M Q
  refine pv_aloadn (pc := 0) (n := 1) 1 rfl rfl (fm_dec dtX9_readStep 0 rfl) ?_
  refine pv_invV0 (k := 1) (d' := 1) (pc := 1) pcv_X9_51 (by decide) rfl (Nat.le_of_ble_eq_true rfl) (by omega) (fm_dec dtX9_readStep 1 rfl) ?_
  refine x_next hP.1 hP.2.1 hP.2.2.1 (fun M1 x1 hx1 k1 => ?_)
  refine pv_then1 ?_
  refine pv_istore (pc := 4) (i := 4) (by decide) rfl (fm_dec dtX9_readStep 2 rfl) ?_
  dsimp only [List.set_cons_zero, List.set_cons_succ]
  refine pv_aloadn (pc := 6) (n := 1) 1 rfl rfl (fm_dec dtX9_readStep 3 rfl) ?_
  refine pv_ldcT (i := 4) (pc := 7) pkn_X9_54 ptx_X9_54 (fm_dec dtX9_readStep 4 rfl) ?_
  refine pv_invV1 (k := 1) (d' := 5) (pc := 9) pcv_X9_56 (by decide) rfl (Nat.le_of_ble_eq_true rfl) (by omega) (fm_dec dtX9_readStep 5 rfl) ?_
  refine x_word (i5 := 4) (by decide) chs_4 wsWork_ok (by decide) k1.1 k1.2.1 k1.2.2.2 (fun M9 j9 w9 e9 hw9 k9 => ?_) (fun e9 M9 b9 => ?_)  
  · refine pv_then1 ?_
    refine pv_istore (pc := 12) (i := 5) (by decide) rfl (fm_dec dtX9_readStep 6 rfl) ?_
    dsimp only [List.set_cons_zero, List.set_cons_succ]
    rw [sk_sk hP.1.2.2.2.1 hP.1.2.2.1] at e9
    rw [sk_sk hP.1.2.2.2.1 hP.1.2.2.1] at k9
    have hst := stK_of e9
    have hz9 : (M9.1 28 3).toInt = (b : Int) := (by rw [(k9.2.2.1.1 28 3 (by decide)).1, (k1.2.2.1.1 28 3 (by decide)).1]; exact hP.2.2.2.1)
    refine pv_iload (pc := 14) (i := 5) rfl (fm_dec dtX9_readStep 7 rfl) ?_
    refine pv_iconst (pc := 16) (v := (-1)) (by decide) (fm_dec dtX9_readStep 8 rfl) ?_
    refine pv_icmp_eq (pc := 17) 30 (by decide) (fm_dec dtX9_readStep 9 rfl) (fun hc17 => by exfalso; have h9 := congrArg Int32.toInt hc17; have h8 : (-1 : Int32).toInt = -1 := (by decide); omega) (fun _ => ?_)
    refine pv_aloadn (pc := 20) (n := 0) 0 rfl rfl (fm_dec dtX9_readStep 10 rfl) ?_
    refine pv_getI (k := 28) (j := 3) (ci := 9) (pc := 21) pfl_X9_21 (by decide) rfl (by decide) (fm_dec dtX9_readStep 11 rfl) ?_
    refine pv_sipush (pc := 24) (v := 150) (by decide) (fm_dec dtX9_readStep 12 rfl) ?_
    refine pv_icmp_lt (pc := 27) 32 (by decide) (fm_dec dtX9_readStep 13 rfl) (fun _ => ?_) (fun hc27 => by exfalso; apply hc27; rw [sc_lt]; have h9 : (150 : Int32).toInt = 150 := (by decide); omega)
    refine pv_aloadn (pc := 32) (n := 0) 0 rfl rfl (fm_dec dtX9_readStep 16 rfl) ?_
    refine pv_getI (k := 28) (j := 3) (ci := 9) (pc := 33) pfl_X9_21 (by decide) rfl (by decide) (fm_dec dtX9_readStep 17 rfl) ?_
    refine pv_istore (pc := 36) (i := 6) (by decide) rfl (fm_dec dtX9_readStep 18 rfl) ?_
    dsimp only [List.set_cons_zero, List.set_cons_succ]
    refine pv_aloadn (pc := 38) (n := 0) 0 rfl rfl (fm_dec dtX9_readStep 19 rfl) ?_
    refine pv_dup (pc := 39) rfl (fm_dec dtX9_readStep 20 rfl) ?_
    refine pv_getI (k := 28) (j := 3) (ci := 9) (pc := 40) pfl_X9_21 (by decide) rfl (by decide) (fm_dec dtX9_readStep 21 rfl) ?_
    refine pv_iconst (pc := 43) (v := 1) (by decide) (fm_dec dtX9_readStep 22 rfl) ?_
    refine pv_iadd (pc := 44) (fm_dec dtX9_readStep 23 rfl) ?_
    refine pv_putI (k := 28) (j := 3) (ci := 9) (pc := 45) pfl_X9_21 (by decide) rfl (by decide) (fm_dec dtX9_readStep 24 rfl) ?_
    refine pv_aloadn (pc := 48) (n := 0) 0 rfl rfl (fm_dec dtX9_readStep 25 rfl) ?_
    refine pv_getR (k := 28) (j := 0) (ci := 9) (pc := 49) 29 rfl (by decide) pfl_X9_9 (by decide) rfl (by decide) (fm_dec dtX9_readStep 26 rfl) ?_
    refine pv_iload (pc := 52) (i := 6) rfl (fm_dec dtX9_readStep 27 rfl) ?_
    refine pv_iload (pc := 54) (i := 5) rfl (fm_dec dtX9_readStep 28 rfl) ?_
    refine pv_iast (k := 29) (n := 150) (pc := 56) (by decide) rfl rfl (ix_in hz9 hb9) (fm_dec dtX9_readStep 29 rfl) ?_
    rw [i32_cl hz9]
    have hIS : scInv Tx invX (stpM M9 w9 b) := stpM_inv k9.2.2.2 hz9 hb9 ⟨by omega, by have := hst.2; omega⟩
    have FS : wFr b M (stpM M9 w9 b) := st_fr ((k1.2.2.1.trans k9.2.2.1).w b)
    refine pv_iload (pc := 57) (i := 5) rfl (fm_dec dtX9_readStep 30 rfl) ?_
    refine pv_iconst (pc := 59) (v := 4) (by decide) (fm_dec dtX9_readStep 31 rfl) ?_
    refine pv_icmp_ne (pc := 60) 91 (by decide) (fm_dec dtX9_readStep 32 rfl) (fun hc60 => ?_) (fun hc60 => ?_)
    · refine pv_aloadn (pc := 91) (n := 0) 0 rfl rfl (fm_dec dtX9_readStep 50 rfl) ?_
      refine pv_getR (k := 28) (j := 1) (ci := 9) (pc := 92) 30 rfl (by decide) pfl_X9_15 (by decide) rfl (by decide) (fm_dec dtX9_readStep 51 rfl) ?_
      refine pv_iload (pc := 95) (i := 6) rfl (fm_dec dtX9_readStep 52 rfl) ?_
      refine pv_iload (pc := 97) (i := 5) rfl (fm_dec dtX9_readStep 53 rfl) ?_
      refine pv_iconst (pc := 99) (v := 3) (by decide) (fm_dec dtX9_readStep 54 rfl) ?_
      refine pv_icmp_ne (pc := 100) 107 (by decide) (fm_dec dtX9_readStep 55 rfl) (fun hc100 => ?_) (fun hc100 => ?_)
      · refine pv_aloadn (pc := 107) (n := 1) 1 rfl rfl (fm_dec dtX9_readStep 58 rfl) ?_
        refine pv_iconst (pc := 108) (v := 0) (by decide) (fm_dec dtX9_readStep 59 rfl) ?_
        refine pv_iloadn (pc := 109) (n := 2) 2 rfl rfl (fm_dec dtX9_readStep 60 rfl) ?_
        refine pv_iconst (pc := 110) (v := 1) (by decide) (fm_dec dtX9_readStep 61 rfl) ?_
        refine pv_isub (pc := 111) (fm_dec dtX9_readStep 62 rfl) ?_
        refine pv_invV2 (k := 1) (d' := 2) (pc := 112) pcv_X9_68 (by decide) rfl (Nat.le_of_ble_eq_true rfl) (by omega) (fm_dec dtX9_readStep 63 rfl) ?_
        refine x_numC 0 ((l : Int) - 1) (by decide) (by have z1 : (1 : Int32).toInt = 1 := (by decide); rw [sc_sub (by omega) (by omega)]; omega) (by omega) (st_S k9.1) k9.2.1 hIS (fun M112 v112 q112 w112 e112 hw112 k112 => ?_) (fun M112 kb ab e112 b112 => ?_)
        · refine pv_then1 ?_
          refine pv_iast (k := 30) (n := 150) (pc := 115) (by decide) rfl rfl (ix_in hz9 hb9) (fm_dec dtX9_readStep 64 rfl) ?_
          rw [i32_cl hz9]
          have n112 := spNum_ok hP.1.2.2.2.1 k9.1.2.2.1 e112
          have hI115 : scInv Tx invX (fmI M112 30 b w112) := xInv.put k112.2.2.2 (by rw [xi_30]; omega)
          refine pv_aloadn (pc := 116) (n := 1) 1 rfl rfl (fm_dec dtX9_readStep 65 rfl) ?_
          refine pv_invV0 (k := 1) (d' := 0) (pc := 117) pcv_X9_72 (by decide) rfl (Nat.le_of_ble_eq_true rfl) (by omega) (fm_dec dtX9_readStep 66 rfl) ?_
          refine c_xfailed (fun _ => ?_) (fun h9 => absurd k112.2.1 h9) 
          refine pv_then1 ?_
          refine pv_if_ne (pc := 120) 127 (by decide) (fm_dec dtX9_readStep 67 rfl) (fun hc120 => by exfalso; revert hc120; decide) (fun _ => ?_)
          refine pv_iconst (pc := 123) (v := 1) (by decide) (fm_dec dtX9_readStep 68 rfl) ?_
          refine pv_goto (pc := 124) 128 (by decide) (fm_dec dtX9_readStep 69 rfl) ?_
          exact pv_zreturn (pc := 128) rfl (by first | exact Or.inr rfl | exact Or.inl rfl) (fm_dec dtX9_readStep 71 rfl) (hE.1 _ [(j9, v112, b + 1)] q112 (by rw [bo_s hst.1 (by intro h9; apply hc60; exact i32_ext (by have z4 : (4 : Int32).toInt = 4 := (by decide); omega)) (by intro h9; apply hc100; exact i32_ext (by have z3 : (3 : Int32).toInt = 3 := (by decide); omega))]; unfold bSi; simp only [spBind, e112]) (w_one (w := w9) k112.1 k112.2.1 hI115 (by rw [(k112.2.2.1.1 28 3 (by decide)).1]; show (M9.1 28 3 + 1).toInt = _; exact i32_p1 hz9 (by omega)) (by rw [(k112.2.2.1.1 29 b (by decide)).1]; (try unfold stpM); rw [fmI_s]; exact hw9) hw112 (by intro h9; apply hc60; exact i32_ext (by have z4 : (4 : Int32).toInt = 4 := (by decide); omega)) (FS.trans (k112.2.2.1.w b) (Nat.le_refl _))))
        · refine pv_then1 ?_
          refine pv_iast (k := 30) (n := 150) (pc := 115) (by decide) rfl rfl (ix_in hz9 hb9) (fm_dec dtX9_readStep 64 rfl) ?_
          rw [i32_cl hz9]
          refine pv_aloadn (pc := 116) (n := 1) 1 rfl rfl (fm_dec dtX9_readStep 65 rfl) ?_
          refine pv_invV0 (k := 1) (d' := 0) (pc := 117) pcv_X9_72 (by decide) rfl (Nat.le_of_ble_eq_true rfl) (by omega) (fm_dec dtX9_readStep 66 rfl) ?_
          refine c_xfailed (fun h9 => absurd h9 b112.nz) (fun _ => ?_) 
          refine pv_then1 ?_
          refine pv_if_ne (pc := 120) 127 (by decide) (fm_dec dtX9_readStep 67 rfl) (fun _ => ?_) (fun hc120 => by exfalso; revert hc120; decide)
          refine pv_iconst (pc := 127) (v := 0) (by decide) (fm_dec dtX9_readStep 70 rfl) ?_
          exact pv_zreturn (pc := 128) rfl (by first | exact Or.inr rfl | exact Or.inl rfl) (fm_dec dtX9_readStep 71 rfl) (hE.2 _ kb ab (by rw [bo_s hst.1 (by intro h9; apply hc60; exact i32_ext (by have z4 : (4 : Int32).toInt = 4 := (by decide); omega)) (by intro h9; apply hc100; exact i32_ext (by have z3 : (3 : Int32).toInt = 3 := (by decide); omega))]; unfold bSi; simp only [spBind, e112]) ⟨b112.1, b112.2.1, b112.2.2.1, xInv.put b112.2.2.2.2 (by rw [xi_30]; decide), (FS.tr0 (b112.2.2.2.1.w b)).put (Or.inr ⟨by decide, by decide, Nat.zero_le _⟩)⟩)
      · refine pv_iconst (pc := 103) (v := 0) (by decide) (fm_dec dtX9_readStep 56 rfl) ?_
        refine pv_goto (pc := 104) 115 (by decide) (fm_dec dtX9_readStep 57 rfl) ?_
        refine pv_iast (k := 30) (n := 150) (pc := 115) (by decide) rfl rfl (ix_in hz9 hb9) (fm_dec dtX9_readStep 64 rfl) ?_
        rw [i32_cl hz9]
        have hj3 : j9 = 3 := (by have h9 := congrArg Int32.toInt hc100; have z3 : (3 : Int32).toInt = 3 := (by decide); omega)
        refine pv_aloadn (pc := 116) (n := 1) 1 rfl rfl (fm_dec dtX9_readStep 65 rfl) ?_
        refine pv_invV0 (k := 1) (d' := 0) (pc := 117) pcv_X9_72 (by decide) rfl (Nat.le_of_ble_eq_true rfl) (by omega) (fm_dec dtX9_readStep 66 rfl) ?_
        refine c_xfailed (fun _ => ?_) (fun h9 => absurd k9.2.1 h9) 
        refine pv_then1 ?_
        refine pv_if_ne (pc := 120) 127 (by decide) (fm_dec dtX9_readStep 67 rfl) (fun hc120 => by exfalso; revert hc120; decide) (fun _ => ?_)
        refine pv_iconst (pc := 123) (v := 1) (by decide) (fm_dec dtX9_readStep 68 rfl) ?_
        refine pv_goto (pc := 124) 128 (by decide) (fm_dec dtX9_readStep 69 rfl) ?_
        exact pv_zreturn (pc := 128) rfl (by first | exact Or.inr rfl | exact Or.inl rfl) (fm_dec dtX9_readStep 71 rfl) (hE.1 _ [(3, 0, b + 1)] _ (bo_3 (by rw [hst.1, hj3])) (w_one (w := w9) (st_S k9.1) k9.2.1 (xInv.put hIS (by rw [xi_30]; decide)) (by show (M9.1 28 3 + 1).toInt = _; exact i32_p1 hz9 (by omega)) (by (try unfold stpM); rw [fmI_s, hw9, hj3]) (show (0 : Int32).toInt = ((0 : Nat) : Int) by decide) (by decide) FS))
    · have hj4 : j9 = 4 := (by have h9 := congrArg Int32.toInt hc60; have z4 : (4 : Int32).toInt = 4 := (by decide); omega)
      have hst4 : stK (wd tx (sk tx p)) = some 4 := (by rw [hst.1, hj4])
      refine pv_iloadn (pc := 63) (n := 3) 3 rfl rfl (fm_dec dtX9_readStep 33 rfl) ?_
      refine pv_bipush (pc := 64) (v := 6) (by decide) (fm_dec dtX9_readStep 34 rfl) ?_
      refine pv_icmp_lt (pc := 66) 79 (by decide) (fm_dec dtX9_readStep 35 rfl) (fun hc66 => ?_) (fun hc66 => ?_)
      · have ho9 : ¬ o = 6 := (by rw [sc_lt] at hc66; have z6 : (6 : Int32).toInt = 6 := (by decide); omega)
        refine pv_aloadn (pc := 79) (n := 0) 0 rfl rfl (fm_dec dtX9_readStep 41 rfl) ?_
        refine pv_aloadn (pc := 80) (n := 1) 1 rfl rfl (fm_dec dtX9_readStep 42 rfl) ?_
        refine pv_iloadn (pc := 81) (n := 2) 2 rfl rfl (fm_dec dtX9_readStep 43 rfl) ?_
        refine pv_iloadn (pc := 82) (n := 3) 3 rfl rfl (fm_dec dtX9_readStep 44 rfl) ?_
        refine pv_iconst (pc := 83) (v := 1) (by decide) (fm_dec dtX9_readStep 45 rfl) ?_
        refine pv_iadd (pc := 84) (fm_dec dtX9_readStep 46 rfl) ?_
        refine pv_iload (pc := 85) (i := 6) rfl (fm_dec dtX9_readStep 47 rfl) ?_
        refine pv_invV4 (k := 28) (d' := (9 + 3 * (6 - (o + 1)))) (pc := 87) pcv_X9_64 (by decide) rfl (Nat.le_of_ble_eq_true rfl) (by omega) (fm_dec dtX9_readStep 48 rfl) ?_
        refine hA (o + 1) b (sp tW tx (sk tx p)) (stpM M9 w9 b) _ lv (op + 1) _ (by omega) (by omega) (st_S k9.1) k9.2.1 hIS (by show (M9.1 28 3 + 1).toInt = _; exact i32_p1 hz9 (by omega)) (by (try unfold stpM); rw [fmI_s, hw9, hj4]) (by have h5 := stK_4 hst4; rw [wd_len] at h5; have h6 := hP.2.2.2.2.1; have h7 : p ≤ sk tx p := sp_ge p; omega) hP.2.2.2.2.2 hlv hl8 (i32_p1 hop (by omega)) hz9 (fun h9 => hne (by rw [bo_4 hst4 ho9]; exact h9)) ⟨fun M87 s87 q87 e87 k87 => ?_, fun M87 kb ab e87 b87 => ?_⟩  
        · refine pv_then1 ?_
          exact pv_zreturn (pc := 90) rfl (by first | exact Or.inr rfl | exact Or.inl rfl) (fm_dec dtX9_readStep 49 rfl) (hE.1 M87 s87 q87 (by rw [bo_4 hst4 ho9]; exact e87) (wOk.frm FS k87))
        · refine pv_then1 ?_
          exact pv_zreturn (pc := 90) rfl (by first | exact Or.inr rfl | exact Or.inl rfl) (fm_dec dtX9_readStep 49 rfl) (hE.2 M87 kb ab (by rw [bo_4 hst4 ho9]; exact e87) (wBad.pre FS b87))
      · refine pv_aloadn (pc := 69) (n := 1) 1 rfl rfl (fm_dec dtX9_readStep 36 rfl) ?_
        refine pv_iconst (pc := 70) (v := 3) (by decide) (fm_dec dtX9_readStep 37 rfl) ?_
        refine pv_iload (pc := 71) (i := 4) rfl (fm_dec dtX9_readStep 38 rfl) ?_
        refine pv_invV2 (k := 1) (d' := 0) (pc := 73) pcv_X9_60 (by decide) rfl (Nat.le_of_ble_eq_true rfl) (by omega) (fm_dec dtX9_readStep 39 rfl) ?_
        refine c_xfail0 k9.2.1 ?_
        refine pv_then1 ?_
        refine pv_goto (pc := 76) 90 (by decide) (fm_dec dtX9_readStep 40 rfl) ?_
        exact pv_zreturn (pc := 90) rfl (by first | exact Or.inr rfl | exact Or.inl rfl) (fm_dec dtX9_readStep 49 rfl) (by have ho9 : o = 6 := (by rw [sc_lt] at hc66; have z6 : (6 : Int32).toInt = 6 := (by decide); omega); subst ho9; exact hE.2 _ 3 (sk tx p) (bo_6 hst4) (xdBad.wb FS (xdBad.of3 (M := stpM M9 w9 b) ⟨st_S k9.1, k9.2.1, xdFr.refl _, hIS⟩ hx1 (sp_le tB_1 hP.1.2.2.2.1 hP.1.2.2.1))))
  · refine pv_then1 ?_
    refine pv_istore (pc := 12) (i := 5) (by decide) rfl (fm_dec dtX9_readStep 6 rfl) ?_
    dsimp only [List.set_cons_zero, List.set_cons_succ]
    rw [sk_sk hP.1.2.2.2.1 hP.1.2.2.1] at e9 b9
    refine pv_iload (pc := 14) (i := 5) rfl (fm_dec dtX9_readStep 7 rfl) ?_
    refine pv_iconst (pc := 16) (v := (-1)) (by decide) (fm_dec dtX9_readStep 8 rfl) ?_
    refine pv_icmp_eq (pc := 17) 30 (by decide) (fm_dec dtX9_readStep 9 rfl) (fun _ => ?_) (fun hc17 => by exfalso; revert hc17; decide)
    refine pv_iconst (pc := 30) (v := 0) (by decide) (fm_dec dtX9_readStep 14 rfl) ?_
    exact pv_zreturn (pc := 31) rfl (by first | exact Or.inr rfl | exact Or.inl rfl) (fm_dec dtX9_readStep 15 rfl) (hE.2 M9 1 (sk tx p) (bo_n (stK_no e9)) (xdBad.wb (k1.2.2.1.w b) b9))
set_option maxRecDepth 20000 in
theorem ws_loop {tx : tX} {n l F o : Nat} {lv op : Int32} (h0 : ∀ g, g + 1 < F → wG0 tx n l g) (ho6 : o ≤ 6) (hlv : lv.toInt = (l : Int)) (hl8 : l ≤ 8) (hop : op.toInt = (o : Int)) : ∀ (m i b p : Nat) (M : fmM) (Q : fmR → fmM → Prop) (ii : Int32), m ≤ F → ii.toInt = (i : Int) → 2 * i ≤ p → wPre M tx n p b → ¬ spSt tx l m 1 o b (sk tx p) = .inl (9, 0) → wE Q M tx n b (spSt tx l m 1 o b (sk tx p)) → pvEv Tx (8 + 3 * (6 - o)) qX9_readSteps 15 [some (.ref 28), some (.ref 1), some (.int lv), some (.int op), some (.int 93), some (.int ii)] [] M Q := by
  intro m
  induction m using Nat.strongRecOn with
  | _ m ih =>
    intro i b p M Q ii hmF hi hip hP hne hE
    have hpn := hP.1.2.2.1
    have hn := hP.2.2.2.2.2
    obtain ⟨f, rfl⟩ : ∃ f, m = f + 1 := (by cases m with | zero => exact absurd rfl hne | succ f => exact ⟨f, rfl⟩)
    refine pv_iload (pc := 15) (i := 5) rfl (fm_dec dtX9_readSteps 8 rfl) ?_
    refine pv_sipush (pc := 17) (v := 150) (by decide) (fm_dec dtX9_readSteps 9 rfl) ?_
    refine pv_icmp_ge (pc := 20) 61 (by decide) (fm_dec dtX9_readSteps 10 rfl) (fun hc20 => by exfalso; rw [sc_le] at hc20; have h9 : (150 : Int32).toInt = 150 := (by decide); omega) (fun _ => ?_)
    refine pv_aloadn (pc := 23) (n := 1) 1 rfl rfl (fm_dec dtX9_readSteps 11 rfl) ?_
    refine pv_invV0 (k := 1) (d' := 0) (pc := 24) pcv_X9_38 (by decide) rfl (Nat.le_of_ble_eq_true rfl) (by omega) (fm_dec dtX9_readSteps 12 rfl) ?_
    refine x_peek hP.1 hP.2.1 hP.2.2.1 (fun M24 v24 hv24 k24 => ?_)
    refine pv_then1 ?_
    refine pv_iload (pc := 27) (i := 4) rfl (fm_dec dtX9_readSteps 13 rfl) ?_
    refine pv_icmp_ne (pc := 29) 34 (by decide) (fm_dec dtX9_readSteps 14 rfl) (fun hc29 => ?_) (fun hc29 => ?_)
    · have ht : ¬ tx (sk tx p) = 93 := (fun h9 => hc29 (i32_ext (hv24.trans (h9.trans (by decide)))))
      obtain ⟨g, rfl⟩ : ∃ g, f = g + 1 := (by cases f with | zero => exact absurd (ss_b ht rfl) hne | succ g => exact ⟨g, rfl⟩)
      have ne38 : ¬ bOne tx l (fun q => spSt tx l g 1 (o + 1) (b + 1) q) o b (sk tx p) = .inl (9, 0) := (fun h9 => hne (ss_b ht (o_b1 h9)))
      refine pv_aloadn (pc := 34) (n := 0) 0 rfl rfl (fm_dec dtX9_readSteps 17 rfl) ?_
      refine pv_aloadn (pc := 35) (n := 1) 1 rfl rfl (fm_dec dtX9_readSteps 18 rfl) ?_
      refine pv_iloadn (pc := 36) (n := 2) 2 rfl rfl (fm_dec dtX9_readSteps 19 rfl) ?_
      refine pv_iloadn (pc := 37) (n := 3) 3 rfl rfl (fm_dec dtX9_readSteps 20 rfl) ?_
      refine pv_invV3 (k := 28) (d' := (7 + 3 * (6 - o))) (pc := 38) pcv_X9_44 (by decide) rfl (Nat.le_of_ble_eq_true rfl) (by omega) (fm_dec dtX9_readSteps 21 rfl) ?_
      refine h0 g (by omega) o b (sk tx p) M24 _ lv op ho6 (hP.xd k24 (sp_ge p)) hlv hl8 hop ne38 ⟨fun M38 s38 q38 e38 k38 => ?_, fun M38 kb ab e38 b38 => ?_⟩  
      · refine pv_then1 ?_
        refine pv_if_eq (pc := 41) 53 (by decide) (fm_dec dtX9_readSteps 22 rfl) (fun hc41 => by exfalso; revert hc41; decide) (fun _ => ?_)
        refine pv_aloadn (pc := 44) (n := 1) 1 rfl rfl (fm_dec dtX9_readSteps 23 rfl) ?_
        refine pv_bipush (pc := 45) (v := 59) (by decide) (fm_dec dtX9_readSteps 24 rfl) ?_
        refine pv_invV1 (k := 1) (d' := 1) (pc := 47) pcv_X9_47 (by decide) rfl (Nat.le_of_ble_eq_true rfl) (by omega) (fm_dec dtX9_readSteps 25 rfl) ?_
        refine x_signC 59 (by decide) (by decide) k38.1 k38.2.1 k38.2.2.1 (fun M47 q47 e47 k47 => ?_) (fun M47 kb ab e47 b47 => ?_)
        · refine pv_then1 ?_
          refine pv_if_ne (pc := 50) 55 (by decide) (fm_dec dtX9_readSteps 26 rfl) (fun _ => ?_) (fun hc50 => by exfalso; revert hc50; decide)
          refine pv_iincc (pc := 55) 5 1 (by decide) rfl (by decide) rfl (fm_dec dtX9_readSteps 29 rfl) ?_
          dsimp only [List.set_cons_zero, List.set_cons_succ]
          refine pv_goto (pc := 58) 15 (by decide) (fm_dec dtX9_readSteps 30 rfl) ?_
          have e0 := o_ok e38 e47
          have hsp : sk tx p ≤ n := sp_le tB_1 hP.1.2.2.2.1 hP.1.2.2.1
          have hge : p ≤ sk tx p := sp_ge p
          have l38 := spSt_len hP.1.2.2.2.1 _ _ _ _ _ _ _ hsp e0
          have l1 := l38.2.2 rfl
          have kS : wOk M M47 tx n q47 b s38 := (k38.pre k24.2.2.1).xd k47
          have eS := ss_s ht e0
          rw [eS] at hne
          exact ih (g + 1) (by omega) (i + 1) (b + s38.length) q47 M47 Q _ (by omega) (i32_p1 hi (by omega)) (by omega) (hP.next kS (by omega)) (spBind_ne hne) ⟨fun M2 ts q2 e2 k2 => hE.1 M2 _ q2 (by rw [eS, e2]; rfl) (kS.trans k2), fun M2 k a e2 k2 => hE.2 M2 k a (by rw [eS, e2]; rfl) (kS.bad k2)⟩
        · refine pv_then1 ?_
          refine pv_if_ne (pc := 50) 55 (by decide) (fm_dec dtX9_readSteps 26 rfl) (fun hc50 => by exfalso; revert hc50; decide) (fun _ => ?_)
          refine pv_iconst (pc := 53) (v := 0) (by decide) (fm_dec dtX9_readSteps 27 rfl) ?_
          exact pv_zreturn (pc := 54) rfl (by first | exact Or.inr rfl | exact Or.inl rfl) (fm_dec dtX9_readSteps 28 rfl) (hE.2 M47 kb ab (ss_b ht (o_b2 e38 e47)) ((k38.pre k24.2.2.1).xdb b47))
      · refine pv_then1 ?_
        refine pv_if_eq (pc := 41) 53 (by decide) (fm_dec dtX9_readSteps 22 rfl) (fun _ => ?_) (fun hc41 => by exfalso; revert hc41; decide)
        refine pv_iconst (pc := 53) (v := 0) (by decide) (fm_dec dtX9_readSteps 27 rfl) ?_
        exact pv_zreturn (pc := 54) rfl (by first | exact Or.inr rfl | exact Or.inl rfl) (fm_dec dtX9_readSteps 28 rfl) (hE.2 M38 kb ab (ss_b ht (o_b1 e38)) (wBad.pre (k24.2.2.1.w b) b38))
    · refine pv_iconst (pc := 32) (v := 1) (by decide) (fm_dec dtX9_readSteps 15 rfl) ?_
      exact pv_zreturn (pc := 33) rfl (by first | exact Or.inr rfl | exact Or.inl rfl) (fm_dec dtX9_readSteps 16 rfl) (hE.1 M24 [] (sk tx p) (ss_e (by rw [← hv24, hc29]; decide)) (hP.nil.xd k24))
set_option maxRecDepth 20000 in
theorem w1_G {tx : tX} {n l f : Nat} (h0 : ∀ g, g + 1 < f → wG0 tx n l g) : wG1 tx n l f := by
  intro o b p M Q lv op ho1 ho6 hP hlv hl8 hop hne hE
  refine pvGood_of (Nat.le_of_ble_eq_true rfl) ?_
  show pvEv Tx (8 + 3 * (6 - o)) qX9_readSteps 0 [some (.ref 28), some (.ref 1), some (.int lv), some (.int op), none, none] [] M Q
  refine pv_iloadn (pc := 0) (n := 3) 3 rfl rfl (fm_dec dtX9_readSteps 0 rfl) ?_
  refine pv_if_ne (pc := 1) 8 (by decide) (fm_dec dtX9_readSteps 1 rfl) (fun _ => ?_) (fun hc1 => by exfalso; have h9 := congrArg Int32.toInt hc1; have z0 : (0 : Int32).toInt = 0 := (by decide); omega)
  refine pv_bipush (pc := 8) (v := 93) (by decide) (fm_dec dtX9_readSteps 4 rfl) ?_
  refine pv_istore (pc := 10) (i := 4) (by decide) rfl (fm_dec dtX9_readSteps 5 rfl) ?_
  dsimp only [List.set_cons_zero, List.set_cons_succ]
  refine pv_iconst (pc := 12) (v := 0) (by decide) (fm_dec dtX9_readSteps 6 rfl) ?_
  refine pv_istore (pc := 13) (i := 5) (by decide) rfl (fm_dec dtX9_readSteps 7 rfl) ?_
  dsimp only [List.set_cons_zero, List.set_cons_succ]
  exact ws_loop h0 ho6 hlv hl8 hop f 0 b p M Q 0 (Nat.le_refl _) (by decide) (Nat.zero_le _) hP hne hE
theorem w_all {tx : tX} {n l : Nat} : ∀ f, wG0 tx n l f := by
  intro f
  induction f using Nat.strongRecOn with
  | _ f ih => exact w0_G (wa_G (w1_G (fun g hg => ih g (by omega))))
theorem wkl_0 {tx : tX} {n l f b p : Nat} (h : n ≤ p) : wkL tx n l (f + 1) b p = .inr [] := if_pos h
theorem wkl_b {tx : tX} {n l f b p : Nat} {e : Nat × Nat} (h : ¬ n ≤ p) (h1 : spSt tx l 400 0 0 b p = .inl e) : wkL tx n l (f + 1) b p = .inl e := by
  simp only [wkL]
  rw [if_neg h, h1]
theorem wkl_s {tx : tX} {n l f b p q : Nat} {ss ts : tS} (h : ¬ n ≤ p) (h1 : spSt tx l 400 0 0 b p = .inr (ss, q)) (h2 : wkL tx n l f (b + ss.length) (sk tx q) = .inr ts) : wkL tx n l (f + 1) b p = .inr (ss ++ ts) := by
  simp only [wkL]
  rw [if_neg h, h1]
  simp only
  rw [h2]
theorem wkl_t {tx : tX} {n l f b p q : Nat} {ss : tS} {e : Nat × Nat} (h : ¬ n ≤ p) (h1 : spSt tx l 400 0 0 b p = .inr (ss, q)) (h2 : wkL tx n l f (b + ss.length) (sk tx q) = .inl e) : wkL tx n l (f + 1) b p = .inl e := by
  simp only [wkL]
  rw [if_neg h, h1]
  simp only
  rw [h2]
def wEL (Q : fmR → fmM → Prop) (M : fmM) (tx : tX) (n b : Nat) (r : (Nat × Nat) ⊕ tS) : Prop := (∀ (M' : fmM) (ss : tS) (q : Nat), r = .inr ss → wOk M M' tx n q b ss → Q (.inl (some (.int 1))) M') ∧ ∀ (M' : fmM) (k a : Nat), r = .inl (k, a) → wBad M M' k a → Q (.inl (some (.int 0))) M'
set_option maxRecDepth 20000 in
theorem wt_loop {tx : tX} {n l : Nat} {lv : Int32} (hlv : lv.toInt = (l : Int)) (hl8 : l ≤ 8) : ∀ (m i b p : Nat) (M : fmM) (Q : fmR → fmM → Prop) (ii : Int32), ii.toInt = (i : Int) → 2 * i ≤ p → wPre M tx n p b → ¬ wkL tx n l m b (sk tx p) = .inl (9, 0) → wEL Q M tx n b (wkL tx n l m b (sk tx p)) → pvEv Tx (8 + 3 * (6 - 0)) qX9_readSteps 15 [some (.ref 28), some (.ref 1), some (.int lv), some (.int 0), some (.int (-1)), some (.int ii)] [] M Q := by
  intro m
  induction m with
  | zero => intro i b p M Q ii hi hip hP hne hE; exact absurd rfl hne
  | succ m ih =>
    intro i b p M Q ii hi hip hP hne hE
    have hpn := hP.1.2.2.1
    have hn := hP.2.2.2.2.2
    refine pv_iload (pc := 15) (i := 5) rfl (fm_dec dtX9_readSteps 8 rfl) ?_
    refine pv_sipush (pc := 17) (v := 150) (by decide) (fm_dec dtX9_readSteps 9 rfl) ?_
    refine pv_icmp_ge (pc := 20) 61 (by decide) (fm_dec dtX9_readSteps 10 rfl) (fun hc20 => by exfalso; rw [sc_le] at hc20; have h9 : (150 : Int32).toInt = 150 := (by decide); omega) (fun _ => ?_)
    refine pv_aloadn (pc := 23) (n := 1) 1 rfl rfl (fm_dec dtX9_readSteps 11 rfl) ?_
    refine pv_invV0 (k := 1) (d' := 0) (pc := 24) pcv_X9_38 (by decide) rfl (Nat.le_of_ble_eq_true rfl) (by decide) (fm_dec dtX9_readSteps 12 rfl) ?_
    refine x_peek hP.1 hP.2.1 hP.2.2.1 (fun M24 v24 hv24 k24 => ?_)
    refine pv_then1 ?_
    refine pv_iload (pc := 27) (i := 4) rfl (fm_dec dtX9_readSteps 13 rfl) ?_
    refine pv_icmp_ne (pc := 29) 34 (by decide) (fm_dec dtX9_readSteps 14 rfl) (fun hc29 => ?_) (fun hc29 => ?_)
    · have hnp : ¬ n ≤ sk tx p := (fun h9 => hc29 (i32_ext (by rw [hv24, hP.1.2.2.2.1.2.1 _ h9]; decide)))
      have ne38 : ¬ bOne tx l (fun q => spSt tx l 399 1 (0 + 1) (b + 1) q) 0 b (sk tx p) = .inl (9, 0) := (fun h9 => hne (wkl_b hnp (o_b1 h9)))
      refine pv_aloadn (pc := 34) (n := 0) 0 rfl rfl (fm_dec dtX9_readSteps 17 rfl) ?_
      refine pv_aloadn (pc := 35) (n := 1) 1 rfl rfl (fm_dec dtX9_readSteps 18 rfl) ?_
      refine pv_iloadn (pc := 36) (n := 2) 2 rfl rfl (fm_dec dtX9_readSteps 19 rfl) ?_
      refine pv_iloadn (pc := 37) (n := 3) 3 rfl rfl (fm_dec dtX9_readSteps 20 rfl) ?_
      refine pv_invV3 (k := 28) (d' := (7 + 3 * (6 - 0))) (pc := 38) pcv_X9_44 (by decide) rfl (Nat.le_of_ble_eq_true rfl) (by decide) (fm_dec dtX9_readSteps 21 rfl) ?_
      refine w_all 399 0 b (sk tx p) M24 _ lv 0 (by decide) (hP.xd k24 (sp_ge p)) hlv hl8 (by decide) ne38 ⟨fun M38 s38 q38 e38 k38 => ?_, fun M38 kb ab e38 b38 => ?_⟩  
      · refine pv_then1 ?_
        refine pv_if_eq (pc := 41) 53 (by decide) (fm_dec dtX9_readSteps 22 rfl) (fun hc41 => by exfalso; revert hc41; decide) (fun _ => ?_)
        refine pv_aloadn (pc := 44) (n := 1) 1 rfl rfl (fm_dec dtX9_readSteps 23 rfl) ?_
        refine pv_bipush (pc := 45) (v := 59) (by decide) (fm_dec dtX9_readSteps 24 rfl) ?_
        refine pv_invV1 (k := 1) (d' := 1) (pc := 47) pcv_X9_47 (by decide) rfl (Nat.le_of_ble_eq_true rfl) (by decide) (fm_dec dtX9_readSteps 25 rfl) ?_
        refine x_signC 59 (by decide) (by decide) k38.1 k38.2.1 k38.2.2.1 (fun M47 q47 e47 k47 => ?_) (fun M47 kb ab e47 b47 => ?_)
        · refine pv_then1 ?_
          refine pv_if_ne (pc := 50) 55 (by decide) (fm_dec dtX9_readSteps 26 rfl) (fun _ => ?_) (fun hc50 => by exfalso; revert hc50; decide)
          refine pv_iincc (pc := 55) 5 1 (by decide) rfl (by decide) rfl (fm_dec dtX9_readSteps 29 rfl) ?_
          dsimp only [List.set_cons_zero, List.set_cons_succ]
          refine pv_goto (pc := 58) 15 (by decide) (fm_dec dtX9_readSteps 30 rfl) ?_
          have e0 := o_ok e38 e47
          have hsp : sk tx p ≤ n := sp_le tB_1 hP.1.2.2.2.1 hP.1.2.2.1
          have hge : p ≤ sk tx p := sp_ge p
          have l38 := spSt_len hP.1.2.2.2.1 _ _ _ _ _ _ _ hsp e0
          have l1 := l38.2.2 rfl
          have kS : wOk M M47 tx n q47 b s38 := (k38.pre k24.2.2.1).xd k47
          exact ih (i + 1) (b + s38.length) q47 M47 Q _ (i32_p1 hi (by omega)) (by omega) (hP.next kS (by omega)) (fun h9 => hne (wkl_t hnp e0 h9)) ⟨fun M2 ts q2 e2 k2 => hE.1 M2 _ q2 (wkl_s hnp e0 e2) (kS.trans k2), fun M2 k a e2 k2 => hE.2 M2 k a (wkl_t hnp e0 e2) (kS.bad k2)⟩
        · refine pv_then1 ?_
          refine pv_if_ne (pc := 50) 55 (by decide) (fm_dec dtX9_readSteps 26 rfl) (fun hc50 => by exfalso; revert hc50; decide) (fun _ => ?_)
          refine pv_iconst (pc := 53) (v := 0) (by decide) (fm_dec dtX9_readSteps 27 rfl) ?_
          exact pv_zreturn (pc := 54) rfl (by first | exact Or.inr rfl | exact Or.inl rfl) (fm_dec dtX9_readSteps 28 rfl) (hE.2 M47 kb ab (wkl_b hnp (o_b2 e38 e47)) ((k38.pre k24.2.2.1).xdb b47))
      · refine pv_then1 ?_
        refine pv_if_eq (pc := 41) 53 (by decide) (fm_dec dtX9_readSteps 22 rfl) (fun _ => ?_) (fun hc41 => by exfalso; revert hc41; decide)
        refine pv_iconst (pc := 53) (v := 0) (by decide) (fm_dec dtX9_readSteps 27 rfl) ?_
        exact pv_zreturn (pc := 54) rfl (by first | exact Or.inr rfl | exact Or.inl rfl) (fm_dec dtX9_readSteps 28 rfl) (hE.2 M38 kb ab (wkl_b hnp (o_b1 e38)) (wBad.pre (k24.2.2.1.w b) b38))
    · refine pv_iconst (pc := 32) (v := 1) (by decide) (fm_dec dtX9_readSteps 15 rfl) ?_
      exact pv_zreturn (pc := 33) rfl (by first | exact Or.inr rfl | exact Or.inl rfl) (fm_dec dtX9_readSteps 16 rfl) (hE.1 M24 [] (sk tx p) (wkl_0 (by by_cases h9 : n ≤ sk tx p; exact h9; exfalso; have h8 := hP.1.2.2.2.1.2.2 (sk tx p) (by omega); rw [hc29] at hv24; have h7 : (-1 : Int32).toInt = -1 := (by decide); omega)) (hP.nil.xd k24))
set_option maxRecDepth 20000 in
theorem c_wsteps {M : fmM} {Q : fmR → fmM → Prop} {tx : tX} {n l : Nat} {lv : Int32} (hlv : lv.toInt = (l : Int)) (hl8 : l ≤ 8) (hP : wPre M tx n 0 0) (hE : wEL Q M tx n 0 (spWork tx n l)) : pvGood Tx (8 + 3 * (6 - 0)) qX9_readSteps [.ref 28, .ref 1, .int lv, .int 0] M Q := by
  refine pvGood_of (Nat.le_of_ble_eq_true rfl) ?_
  show pvEv Tx (8 + 3 * (6 - 0)) qX9_readSteps 0 [some (.ref 28), some (.ref 1), some (.int lv), some (.int 0), none, none] [] M Q
  refine pv_iloadn (pc := 0) (n := 3) 3 rfl rfl (fm_dec dtX9_readSteps 0 rfl) ?_
  refine pv_if_ne (pc := 1) 8 (by decide) (fm_dec dtX9_readSteps 1 rfl) (fun hc1 => by exfalso; revert hc1; decide) (fun _ => ?_)
  refine pv_iconst (pc := 4) (v := (-1)) (by decide) (fm_dec dtX9_readSteps 2 rfl) ?_
  refine pv_goto (pc := 5) 10 (by decide) (fm_dec dtX9_readSteps 3 rfl) ?_
  refine pv_istore (pc := 10) (i := 4) (by decide) rfl (fm_dec dtX9_readSteps 5 rfl) ?_
  dsimp only [List.set_cons_zero, List.set_cons_succ]
  refine pv_iconst (pc := 12) (v := 0) (by decide) (fm_dec dtX9_readSteps 6 rfl) ?_
  refine pv_istore (pc := 13) (i := 5) (by decide) rfl (fm_dec dtX9_readSteps 7 rfl) ?_
  dsimp only [List.set_cons_zero, List.set_cons_succ]
  have hs0 : sk tx 0 ≤ n := sp_le tB_1 hP.1.2.2.2.1 (Nat.zero_le _)
  exact wt_loop hlv hl8 700 0 0 0 M Q 0 (by decide) (Nat.zero_le _) hP (fun h9 => by have h8 := (wkL_bad (l := l) hP.1.2.2.2.1 hP.2.2.2.2.2 700 0 (sk tx 0) (9, 0) hs0 (by have := hP.2.2.2.2.2; omega) h9).1.2; exact absurd h8 (show ¬ 9 ≤ 3 by decide)) hE
set_option maxRecDepth 20000 in
theorem c_wread {M : fmM} {Q : fmR → fmM → Prop} {tx : tX} {n l : Nat} {lv : Int32} (hlv : lv.toInt = (l : Int)) (hl8 : l ≤ 8) (hS : xS2 M tx n 0) (hf : M.1 1 4 = 0) (hI : scInv Tx invX M) (hn : n ≤ 150) (hok : ∀ (M' : fmM) (ss : tS) (q : Nat), spWork tx n l = .inr ss → wOk (rdM M) M' tx n q 0 ss → Q (.inl (some (.int 1))) M') (hbad : ∀ (M' : fmM) (k a : Nat), spWork tx n l = .inl (k, a) → wBad (rdM M) M' k a → Q (.inl (some (.int 0))) M') : pvGood Tx 27 qX9_read [.ref 28, .ref 1, .int lv] M Q := by
  refine pvGood_of (Nat.le_of_ble_eq_true rfl) ?_
  show pvEv Tx 27 qX9_read 0 [some (.ref 28), some (.ref 1), some (.int lv)] [] M Q
  refine pv_aloadn (pc := 0) (n := 0) 0 rfl rfl (fm_dec dtX9_read 0 rfl) ?_
  refine pv_iconst (pc := 1) (v := 0) (by decide) (fm_dec dtX9_read 1 rfl) ?_
  refine pv_putI (k := 28) (j := 3) (ci := 9) (pc := 2) pfl_X9_21 (by decide) rfl (by decide) (fm_dec dtX9_read 2 rfl) ?_
  refine pv_aloadn (pc := 5) (n := 0) 0 rfl rfl (fm_dec dtX9_read 3 rfl) ?_
  refine pv_iconst (pc := 6) (v := 0) (by decide) (fm_dec dtX9_read 4 rfl) ?_
  refine pv_putI (k := 28) (j := 4) (ci := 9) (pc := 7) pfl_X9_25 (by decide) rfl (by decide) (fm_dec dtX9_read 5 rfl) ?_
  refine pv_aloadn (pc := 10) (n := 0) 0 rfl rfl (fm_dec dtX9_read 6 rfl) ?_
  refine pv_iconst (pc := 11) (v := 0) (by decide) (fm_dec dtX9_read 7 rfl) ?_
  refine pv_putI (k := 28) (j := 5) (ci := 9) (pc := 12) pfl_X9_28 (by decide) rfl (by decide) (fm_dec dtX9_read 8 rfl) ?_
  refine pv_aloadn (pc := 15) (n := 0) 0 rfl rfl (fm_dec dtX9_read 9 rfl) ?_
  refine pv_iconst (pc := 16) (v := 0) (by decide) (fm_dec dtX9_read 10 rfl) ?_
  refine pv_putI (k := 28) (j := 6) (ci := 9) (pc := 17) pfl_X9_31 (by decide) rfl (by decide) (fm_dec dtX9_read 11 rfl) ?_
  have hI2 : scInv Tx invX (rdM M) := inv_28 (inv_28 (xInv.put (xInv.put hI (by decide)) (by decide)) (Or.inl rfl)) (Or.inr rfl)
  have hP2 : wPre (rdM M) tx n 0 0 := ⟨hS.of rfl rfl rfl, hf, hI2, (show (0 : Int32).toInt = ((0 : Nat) : Int) by decide), Nat.le_refl _, hn⟩
  refine pv_aloadn (pc := 20) (n := 0) 0 rfl rfl (fm_dec dtX9_read 12 rfl) ?_
  refine pv_aloadn (pc := 21) (n := 1) 1 rfl rfl (fm_dec dtX9_read 13 rfl) ?_
  refine pv_iloadn (pc := 22) (n := 2) 2 rfl rfl (fm_dec dtX9_read 14 rfl) ?_
  refine pv_iconst (pc := 23) (v := 0) (by decide) (fm_dec dtX9_read 15 rfl) ?_
  refine pv_invV3 (k := 28) (d' := (8 + 3 * (6 - 0))) (pc := 24) pcv_X9_34 (by decide) rfl (Nat.le_of_ble_eq_true rfl) (by decide) (fm_dec dtX9_read 16 rfl) ?_
  refine c_wsteps (M := rdM M) hlv hl8 hP2 ⟨fun M24 s24 q24 e24 k24 => ?_, fun M24 kb ab e24 b24 => ?_⟩  
  · refine pv_then1 ?_
    exact pv_zreturn (pc := 27) rfl (by first | exact Or.inr rfl | exact Or.inl rfl) (fm_dec dtX9_read 17 rfl) (hok M24 s24 q24 e24 k24)
  · refine pv_then1 ?_
    exact pv_zreturn (pc := 27) rfl (by first | exact Or.inr rfl | exact Or.inl rfl) (fm_dec dtX9_read 17 rfl) (hbad M24 kb ab e24 b24)
end
