-- THE CLASS WORKS A LAW OUT
/-- codes that can be, by how high the stack stands, never above B -/
def dpB (B : Nat) : Nat → tC → Option Nat
  | d, [] => some d
  | d, c :: cs => if c.1 < 2 then (if d < B ∧ ((c.1 = 0 ∧ c.2 ≤ 999) ∨ (c.1 = 1 ∧ c.2 ≤ 4)) then dpB B (d + 1) cs else none) else (if 2 ≤ d ∧ c.1 ≤ 7 then dpB B (d - 1) cs else none)
theorem dpB_app (B : Nat) : ∀ (cs ds : tC) (d e : Nat), dpB B d cs = some e → dpB B d (cs ++ ds) = dpB B e ds
  | [], ds, d, e, h => by
    cases h
    rfl
  | c :: cs, ds, d, e, h => by
    simp only [dpB, List.cons_append] at h ⊢
    split at h
    · rename_i h1
      rw [if_pos h1]
      split at h
      · rename_i h2
        rw [if_pos h2]
        exact dpB_app B cs ds _ _ h
      · cases h
    · rename_i h1
      rw [if_neg h1]
      split at h
      · rename_i h2
        rw [if_pos h2]
        exact dpB_app B cs ds _ _ h
      · cases h
theorem spNum_hi {tx : tX} {lo hi : Int} {p v q : Nat} (h : spNum tx lo hi p = .inr (v, q)) : (v : Int) ≤ hi := by
  unfold spNum at h
  split at h
  · split at h
    · rename_i h2
      cases h
      rw [Bool.and_eq_true] at h2
      exact of_decide_eq_true h2.2
    · cases h
  · cases h
def rq (md o : Nat) : Nat := 3 * (6 - o) + (if md = 2 then 1 else if md = 1 ∨ 4 ≤ md then 2 else 3)
theorem spL_dpB {tx : tX} : ∀ (f md o p q : Nat) (cs : tC), o ≤ 6 → spL tx f md o p = .inr (cs, q) → ∀ d B, d + rq md o ≤ B → (md < 3 → dpB B d cs = some (d + 1)) ∧ (3 ≤ md → dpB B (d + 1) cs = some (d + 1)) := by
  intro f
  induction f with
  | zero => intro md o p q cs _ h; cases h
  | succ f ih =>
    have app : ∀ (m1 m2 o p q R : Nat) (cs : tC), o ≤ 6 → m1 < 3 → 3 ≤ m2 → rq m1 o ≤ R → rq m2 o ≤ R → spApp (spL tx f m1 o p) (fun q => spL tx f m2 o q) = .inr (cs, q) → ∀ d B, d + R ≤ B → dpB B d cs = some (d + 1) := by
      intro m1 m2 o p q R cs ho h1 h2 r1 r2 h d B hB
      obtain ⟨c1, q1, e1, h⟩ := spBind_ok h
      obtain ⟨c2, q2, e2, h⟩ := spBind_ok h
      cases h
      rw [dpB_app _ _ _ _ _ ((ih _ _ _ _ _ ho e1 d B (by omega)).1 h1)]
      exact (ih _ _ _ _ _ ho e2 d B (by omega)).2 h2
    have op : ∀ (c m1 m2 o p q R : Nat) (cs : tC), o ≤ 6 → 2 ≤ c → c ≤ 7 → m1 < 3 → 3 ≤ m2 → rq m1 o + 1 ≤ R → rq m2 o ≤ R → spOp c (spL tx f m1 o p) (fun q => spL tx f m2 o q) = .inr (cs, q) → ∀ d B, d + R ≤ B → dpB B (d + 1) cs = some (d + 1) := by
      intro c m1 m2 o p q R cs ho hc hc7 h1 h2 r1 r2 h d B hB
      obtain ⟨c1, q1, e1, h⟩ := spBind_ok h
      obtain ⟨c2, q2, e2, h⟩ := spBind_ok h
      cases h
      rw [dpB_app _ _ _ _ _ ((ih _ _ _ _ _ ho e1 (d + 1) B (by omega)).1 h1)]
      simp only [dpB]
      rw [if_neg (by omega), if_pos (by omega)]
      exact (ih _ _ _ _ _ ho e2 d B (by omega)).2 h2
    have lp : ∀ (c1 c2 : Int) (k1 k2 m1 m2 o a q R : Nat) (cs : tC), o ≤ 6 → 2 ≤ k1 → k1 ≤ 7 → 2 ≤ k2 → k2 ≤ 7 → m1 < 3 → 3 ≤ m2 → rq m1 o + 1 ≤ R → rq m2 o ≤ R → spLp tx c1 c2 k1 k2 a (fun q => spL tx f m1 o q) (fun q => spL tx f m2 o q) = .inr (cs, q) → ∀ d B, d + R ≤ B → dpB B (d + 1) cs = some (d + 1) := by
      intro c1 c2 k1 k2 m1 m2 o a q R cs ho hk1 hk1' hk2 hk2' h1 h2 r1 r2 h d B hB
      unfold spLp at h
      split at h
      · exact op _ _ _ _ _ _ _ _ ho hk1 hk1' h1 h2 r1 r2 h d B hB
      · split at h
        · exact op _ _ _ _ _ _ _ _ ho hk2 hk2' h1 h2 r1 r2 h d B hB
        · cases h
          rfl
    have one : ∀ (o a q : Nat) (cs : tC), o ≤ 6 → spOne tx (fun q => spL tx f 0 (o + 1) q) o a = .inr (cs, q) → ∀ d B, d + (3 * (6 - o) + 1) ≤ B → dpB B d cs = some (d + 1) := by
      intro o a q cs ho h d B hB
      have hr : o < 6 → rq 0 (o + 1) ≤ 3 * (6 - o) := fun h6 => by
        unfold rq
        rw [if_neg (by omega), if_neg (by omega)]
        omega
      have two : ∀ c q0, o < 6 → 2 ≤ c → c ≤ 7 → spTwo tx (fun q => spL tx f 0 (o + 1) q) c q0 = .inr (cs, q) → dpB B d cs = some (d + 1) := by
        intro c q0 h6 hc hc7 h
        have hr := hr h6
        obtain ⟨u1, q1, e1, h⟩ := spBind_ok h
        obtain ⟨c2, q2, e2, h⟩ := spBind_ok h
        obtain ⟨u3, q3, e3, h⟩ := spBind_ok h
        obtain ⟨c4, q4, e4, h⟩ := spBind_ok h
        obtain ⟨u5, q5, e5, h⟩ := spBind_ok h
        cases h
        rw [List.append_assoc, dpB_app _ _ _ _ _ ((ih _ _ _ _ _ (by omega) e2 d B (by omega)).1 (by omega)), dpB_app _ _ _ _ _ ((ih _ _ _ _ _ (by omega) e4 (d + 1) B (by omega)).1 (by omega))]
        simp only [dpB]
        rw [if_neg (by omega), if_pos (by omega)]
        rfl
      unfold spOne at h
      split at h
      · split at h
        · cases h
        · exact two 6 _ (by omega) (by omega) (by omega) h
      · split at h
        · split at h
          · cases h
          · exact two 7 _ (by omega) (by omega) (by omega) h
        · split at h
          · split at h
            · cases h
            · have hr := hr (by omega)
              obtain ⟨c1, q1, e1, h⟩ := spBind_ok h
              obtain ⟨u2, q2, e2, h⟩ := spBind_ok h
              cases h
              exact (ih _ _ _ _ _ (by omega) e1 d B (by omega)).1 (by omega)
          · split at h
            · rename_i k hk
              cases h
              have : k ≤ 4 := by
                unfold lwK at hk
                repeat' split at hk
                all_goals (cases hk; try omega)
              show (if (1 : Nat) < 2 then (if d < B ∧ (((1 : Nat) = 0 ∧ k ≤ 999) ∨ ((1 : Nat) = 1 ∧ k ≤ 4)) then dpB B (d + 1) [] else none) else _) = _
              rw [if_pos (by decide), if_pos ⟨by omega, Or.inr ⟨rfl, this⟩⟩]
              rfl
            · obtain ⟨v1, q1, e1, h⟩ := spBind_ok h
              cases h
              have h9 := spNum_hi e1
              show (if (0 : Nat) < 2 then (if d < B ∧ (((0 : Nat) = 0 ∧ v1 ≤ 999) ∨ ((0 : Nat) = 1 ∧ v1 ≤ 4)) then dpB B (d + 1) [] else none) else _) = _
              rw [if_pos (by decide), if_pos ⟨by omega, Or.inl ⟨rfl, by omega⟩⟩]
              rfl
    intro md o p q cs ho h d B hB
    unfold rq at hB
    match md with
    | 0 => exact ⟨fun _ => app 1 3 o p q (3 * (6 - o) + 3) cs ho (by omega) (by omega) (by unfold rq; simp) (by unfold rq; simp) h d B (by simpa using hB), fun h => by omega⟩
    | 1 => exact ⟨fun _ => app 2 4 o p q (3 * (6 - o) + 2) cs ho (by omega) (by omega) (by unfold rq; simp) (by unfold rq; simp) h d B (by simpa using hB), fun h => by omega⟩
    | 2 => exact ⟨fun _ => one o (sk tx p) q cs ho h d B (by simpa using hB), fun h => by omega⟩
    | 3 => exact ⟨fun h => by omega, fun _ => lp 43 45 2 3 1 3 o (sk tx p) q (3 * (6 - o) + 3) cs ho (by omega) (by omega) (by omega) (by omega) (by omega) (by omega) (by unfold rq; simp) (by unfold rq; simp) h d B (by simpa using hB)⟩
    | md + 4 => exact ⟨fun h => by omega, fun _ => lp 42 47 4 5 2 4 o (sk tx p) q (3 * (6 - o) + 2) cs ho (by omega) (by omega) (by omega) (by omega) (by omega) (by omega) (by unfold rq; simp) (by unfold rq; simp) h d B (by rw [if_neg (by omega), if_pos (by omega)] at hB; exact hB)⟩
theorem spLaw_dpB {tx : tX} {n : Nat} {cs : tC} (h : spLaw tx n = .inr cs) : dpB 23 0 cs = some 1 := by
  unfold spLaw at h
  split at h
  · cases h
  · rename_i cs9 q9 e
    split at h
    · cases h
    · cases h
      exact (spL_dpB 700 0 0 _ _ _ (by decide) e 0 23 (by decide)).1 (by decide)
theorem div_m1 (u : Int32) : u / (-1) = -u := by
  apply i32_ext
  have e : (-1 : Int32).toInt = -1 := by decide
  rw [Int32.toInt_div, e, Int32.toInt_neg, Int.tdiv_neg, Int.tdiv_one]
def knF (a b c d e : Int32) (j : Nat) : Int32 := [a, b, c, d, e].getD j 0
theorem tsw_x {x : Int32} (h : 0 ≤ x.toInt) : fmTsw 82 91 (-5) (-1) #[79, 67, 56, 45, 34] x = (173 : Int) := by
  unfold fmTsw
  rw [if_pos (by omega)]
  rfl
set_option maxRecDepth 20000 in
theorem jo_2 {M : fmM} {Q : fmR → fmM → Prop} {u v : Int32} (hq : Q (.inl (some (.int (u + v)))) M) : pvGood Tx 0 qX1_joined [.int (-8), .int u, .int v] M Q := by
  refine pvGood_of (Nat.le_of_ble_eq_true rfl) ?_
  show pvEv Tx 0 qX1_joined 0 [some (.int (-8)), some (.int u), some (.int v)] [] M Q
  refine pv_iloadn (pc := 0) (n := 0) 0 rfl rfl (fm_dec dtX1_joined 0 rfl) ?_
  refine pv_table (pc := 1) 58 (by decide) rfl (fm_dec dtX1_joined 1 rfl) ?_
  refine pv_iloadn (pc := 58) (n := 1) 1 rfl rfl (fm_dec dtX1_joined 16 rfl) ?_
  refine pv_iloadn (pc := 59) (n := 2) 2 rfl rfl (fm_dec dtX1_joined 17 rfl) ?_
  refine pv_iadd (pc := 60) (fm_dec dtX1_joined 18 rfl) ?_
  exact pv_ireturn (pc := 61) rfl (fm_dec dtX1_joined 19 rfl) hq
set_option maxRecDepth 20000 in
theorem jo_3 {M : fmM} {Q : fmR → fmM → Prop} {u v : Int32} (hq : Q (.inl (some (.int (u - v)))) M) : pvGood Tx 0 qX1_joined [.int (-9), .int u, .int v] M Q := by
  refine pvGood_of (Nat.le_of_ble_eq_true rfl) ?_
  show pvEv Tx 0 qX1_joined 0 [some (.int (-9)), some (.int u), some (.int v)] [] M Q
  refine pv_iloadn (pc := 0) (n := 0) 0 rfl rfl (fm_dec dtX1_joined 0 rfl) ?_
  refine pv_table (pc := 1) 62 (by decide) rfl (fm_dec dtX1_joined 1 rfl) ?_
  refine pv_iloadn (pc := 62) (n := 1) 1 rfl rfl (fm_dec dtX1_joined 20 rfl) ?_
  refine pv_iloadn (pc := 63) (n := 2) 2 rfl rfl (fm_dec dtX1_joined 21 rfl) ?_
  refine pv_isub (pc := 64) (fm_dec dtX1_joined 22 rfl) ?_
  exact pv_ireturn (pc := 65) rfl (fm_dec dtX1_joined 23 rfl) hq
set_option maxRecDepth 20000 in
theorem jo_4 {M : fmM} {Q : fmR → fmM → Prop} {u v : Int32} (hq : Q (.inl (some (.int (u * v)))) M) : pvGood Tx 0 qX1_joined [.int (-10), .int u, .int v] M Q := by
  refine pvGood_of (Nat.le_of_ble_eq_true rfl) ?_
  show pvEv Tx 0 qX1_joined 0 [some (.int (-10)), some (.int u), some (.int v)] [] M Q
  refine pv_iloadn (pc := 0) (n := 0) 0 rfl rfl (fm_dec dtX1_joined 0 rfl) ?_
  refine pv_table (pc := 1) 66 (by decide) rfl (fm_dec dtX1_joined 1 rfl) ?_
  refine pv_iloadn (pc := 66) (n := 1) 1 rfl rfl (fm_dec dtX1_joined 24 rfl) ?_
  refine pv_iloadn (pc := 67) (n := 2) 2 rfl rfl (fm_dec dtX1_joined 25 rfl) ?_
  refine pv_imul (pc := 68) (fm_dec dtX1_joined 26 rfl) ?_
  exact pv_ireturn (pc := 69) rfl (fm_dec dtX1_joined 27 rfl) hq
set_option maxRecDepth 20000 in
theorem jo_5 {M : fmM} {Q : fmR → fmM → Prop} {u v : Int32} (hq : Q (.inl (some (.int ((if v = 0 then 0 else if v = -1 then -u else u / v))))) M) : pvGood Tx 0 qX1_joined [.int (-11), .int u, .int v] M Q := by
  refine pvGood_of (Nat.le_of_ble_eq_true rfl) ?_
  show pvEv Tx 0 qX1_joined 0 [some (.int (-11)), some (.int u), some (.int v)] [] M Q
  refine pv_iloadn (pc := 0) (n := 0) 0 rfl rfl (fm_dec dtX1_joined 0 rfl) ?_
  refine pv_table (pc := 1) 70 (by decide) rfl (fm_dec dtX1_joined 1 rfl) ?_
  refine pv_iloadn (pc := 70) (n := 2) 2 rfl rfl (fm_dec dtX1_joined 28 rfl) ?_
  refine pv_if_ne (pc := 71) 78 (by decide) (fm_dec dtX1_joined 29 rfl) (fun hc71 => ?_) (fun hc71 => ?_)
  · refine pv_iloadn (pc := 78) (n := 1) 1 rfl rfl (fm_dec dtX1_joined 32 rfl) ?_
    refine pv_iloadn (pc := 79) (n := 2) 2 rfl rfl (fm_dec dtX1_joined 33 rfl) ?_
    refine pv_idiv (pc := 80) (fun h9 => hc71 h9) (fm_dec dtX1_joined 34 rfl) ?_
    exact pv_ireturn (pc := 81) rfl (fm_dec dtX1_joined 35 rfl) (by first | (rw [if_pos hc71] at hq; exact hq) | (rw [if_neg hc71] at hq; by_cases e9 : v = -1; (rw [if_pos e9] at hq; rw [e9, div_m1]; exact hq); (rw [if_neg e9] at hq; exact hq)))
  · refine pv_iconst (pc := 74) (v := 0) (by decide) (fm_dec dtX1_joined 30 rfl) ?_
    refine pv_goto (pc := 75) 81 (by decide) (fm_dec dtX1_joined 31 rfl) ?_
    exact pv_ireturn (pc := 81) rfl (fm_dec dtX1_joined 35 rfl) (by first | (rw [if_pos hc71] at hq; exact hq) | (rw [if_neg hc71] at hq; by_cases e9 : v = -1; (rw [if_pos e9] at hq; rw [e9, div_m1]; exact hq); (rw [if_neg e9] at hq; exact hq)))
set_option maxRecDepth 20000 in
theorem jo_6 {M : fmM} {Q : fmR → fmM → Prop} {u v : Int32} (hq : Q (.inl (some (.int (pvMx false u v)))) M) : pvGood Tx 0 qX1_joined [.int (-6), .int u, .int v] M Q := by
  refine pvGood_of (Nat.le_of_ble_eq_true rfl) ?_
  show pvEv Tx 0 qX1_joined 0 [some (.int (-6)), some (.int u), some (.int v)] [] M Q
  refine pv_iloadn (pc := 0) (n := 0) 0 rfl rfl (fm_dec dtX1_joined 0 rfl) ?_
  refine pv_table (pc := 1) 36 (by decide) rfl (fm_dec dtX1_joined 1 rfl) ?_
  refine pv_iloadn (pc := 36) (n := 1) 1 rfl rfl (fm_dec dtX1_joined 2 rfl) ?_
  refine pv_iloadn (pc := 37) (n := 2) 2 rfl rfl (fm_dec dtX1_joined 3 rfl) ?_
  refine pv_icmp_ge (pc := 38) 45 (by decide) (fm_dec dtX1_joined 4 rfl) (fun hc38 => ?_) (fun hc38 => ?_)
  · refine pv_iloadn (pc := 45) (n := 2) 2 rfl rfl (fm_dec dtX1_joined 7 rfl) ?_
    exact pv_ireturn (pc := 46) rfl (fm_dec dtX1_joined 8 rfl) (by have e9 : pvMx false u v = (if u.toInt ≤ v.toInt then u else v) := rfl; first | (rw [e9, if_pos (by rw [sc_le] at hc38; omega)] at hq; exact hq) | (rw [e9] at hq; by_cases h8 : u.toInt ≤ v.toInt; (have h7 : u = v := i32_ext (by rw [sc_le] at hc38; omega); rw [if_pos h8, h7] at hq; exact hq); (rw [if_neg h8] at hq; exact hq)))
  · refine pv_iloadn (pc := 41) (n := 1) 1 rfl rfl (fm_dec dtX1_joined 5 rfl) ?_
    refine pv_goto (pc := 42) 46 (by decide) (fm_dec dtX1_joined 6 rfl) ?_
    exact pv_ireturn (pc := 46) rfl (fm_dec dtX1_joined 8 rfl) (by have e9 : pvMx false u v = (if u.toInt ≤ v.toInt then u else v) := rfl; first | (rw [e9, if_pos (by rw [sc_le] at hc38; omega)] at hq; exact hq) | (rw [e9] at hq; by_cases h8 : u.toInt ≤ v.toInt; (have h7 : u = v := i32_ext (by rw [sc_le] at hc38; omega); rw [if_pos h8, h7] at hq; exact hq); (rw [if_neg h8] at hq; exact hq)))
set_option maxRecDepth 20000 in
theorem jo_7 {M : fmM} {Q : fmR → fmM → Prop} {u v : Int32} (hq : Q (.inl (some (.int (pvMx true u v)))) M) : pvGood Tx 0 qX1_joined [.int (-7), .int u, .int v] M Q := by
  refine pvGood_of (Nat.le_of_ble_eq_true rfl) ?_
  show pvEv Tx 0 qX1_joined 0 [some (.int (-7)), some (.int u), some (.int v)] [] M Q
  refine pv_iloadn (pc := 0) (n := 0) 0 rfl rfl (fm_dec dtX1_joined 0 rfl) ?_
  refine pv_table (pc := 1) 47 (by decide) rfl (fm_dec dtX1_joined 1 rfl) ?_
  refine pv_iloadn (pc := 47) (n := 1) 1 rfl rfl (fm_dec dtX1_joined 9 rfl) ?_
  refine pv_iloadn (pc := 48) (n := 2) 2 rfl rfl (fm_dec dtX1_joined 10 rfl) ?_
  refine pv_icmp_le (pc := 49) 56 (by decide) (fm_dec dtX1_joined 11 rfl) (fun hc49 => ?_) (fun hc49 => ?_)
  · refine pv_iloadn (pc := 56) (n := 2) 2 rfl rfl (fm_dec dtX1_joined 14 rfl) ?_
    exact pv_ireturn (pc := 57) rfl (fm_dec dtX1_joined 15 rfl) (by have e9 : pvMx true u v = (if u.toInt ≤ v.toInt then v else u) := rfl; first | (rw [e9, if_neg (by rw [sc_le] at hc49; omega)] at hq; exact hq) | (rw [e9, if_pos (by rw [sc_le] at hc49; omega)] at hq; exact hq))
  · refine pv_iloadn (pc := 52) (n := 1) 1 rfl rfl (fm_dec dtX1_joined 12 rfl) ?_
    refine pv_goto (pc := 53) 57 (by decide) (fm_dec dtX1_joined 13 rfl) ?_
    exact pv_ireturn (pc := 57) rfl (fm_dec dtX1_joined 15 rfl) (by have e9 : pvMx true u v = (if u.toInt ≤ v.toInt then v else u) := rfl; first | (rw [e9, if_neg (by rw [sc_le] at hc49; omega)] at hq; exact hq) | (rw [e9, if_pos (by rw [sc_le] at hc49; omega)] at hq; exact hq))
theorem c_joined {M : fmM} {Q : fmR → fmM → Prop} {x u v : Int32} {c : Nat} (h2 : 2 ≤ c) (h7 : c ≤ 7) (hx : x.toInt = cdV (c, 0)) (hq : Q (.inl (some (.int (opV c u v)))) M) : pvGood Tx 0 qX1_joined [.int x, .int u, .int v] M Q := by
  have hc : c = 2 ∨ c = 3 ∨ c = 4 ∨ c = 5 ∨ c = 6 ∨ c = 7 := by omega
  rcases hc with rfl | rfl | rfl | rfl | rfl | rfl
  · have e : x = (-8) := i32_ext (hx.trans (by decide))
    subst e
    exact jo_2 hq
  · have e : x = (-9) := i32_ext (hx.trans (by decide))
    subst e
    exact jo_3 hq
  · have e : x = (-10) := i32_ext (hx.trans (by decide))
    subst e
    exact jo_4 hq
  · have e : x = (-11) := i32_ext (hx.trans (by decide))
    subst e
    exact jo_5 hq
  · have e : x = (-6) := i32_ext (hx.trans (by decide))
    subst e
    exact jo_6 hq
  · have e : x = (-7) := i32_ext (hx.trans (by decide))
    subst e
    exact jo_7 hq
set_option maxRecDepth 20000 in
theorem xo_loop {Q : fmR → fmM → Prop} {cs : tC} {M0 : fmM} {a1 a2 a3 a4 a5 : Int32} (hsz : (M0.1 23 3).toInt = (cs.length : Int)) (h150 : cs.length ≤ 150) (hcd : ∀ i c, cs[i]? = some c → (M0.1 24 i).toInt = cdV c) : ∀ (m : Nat) (M : fmM) (i d : Nat) (tp ii : Int32) (v8 : Option Value), cs.length - i = m → i ≤ cs.length → ii.toInt = (i : Int) → tp.toInt = (d : Int) → d ≤ 23 → dpB 23 d (cs.drop i) = some 1 → (∀ k j, k ≠ 26 → M.1 k j = M0.1 k j) → M.2 = M0.2 → (∀ (M' : fmM) (tp' ii' : Int32) (v8' : Option Value), (∀ k j, k ≠ 26 → M'.1 k j = M0.1 k j) → M'.2 = M0.2 → M'.1 26 0 = lwR (knF a1 a2 a3 a4 a5) (cs.drop i) d (M.1 26) → pvEv Tx 1 qX1_outcome 191 [some (.ref 23), some (.int a1), some (.int a2), some (.int a3), some (.int a4), some (.int a5), some (.int tp'), some (.int ii'), v8'] [] M' Q) → pvEv Tx 1 qX1_outcome 6 [some (.ref 23), some (.int a1), some (.int a2), some (.int a3), some (.int a4), some (.int a5), some (.int tp), some (.int ii), v8] [] M Q := by
  intro m
  induction m using Nat.strongRecOn with
  | _ m ih =>
    intro M i d tp ii v8 hm hile hii htp hdle hdB hfr hfr2 hq
    refine pv_iload (pc := 6) (i := 7) rfl (fm_dec dtX1_outcome 4 rfl) ?_
    refine pv_aloadn (pc := 8) (n := 0) 0 rfl rfl (fm_dec dtX1_outcome 5 rfl) ?_
    refine pv_getI (k := 23) (j := 3) (ci := 1) (pc := 9) pfl_X1_24 (by decide) rfl (by decide) (fm_dec dtX1_outcome 6 rfl) ?_
    refine pv_icmp_ge (pc := 12) 191 (by decide) (fm_dec dtX1_outcome 7 rfl) (fun hc12 => ?_) (fun hc12 => ?_)
    · have hie : i = cs.length := (by rw [sc_le] at hc12; have h9 := hfr 23 3 (by decide); rw [h9] at hc12; omega)
      refine hq M tp ii _ hfr hfr2 ?_
      rw [List.drop_eq_nil_of_le (by omega)]
      rfl
    · refine pv_iload (pc := 15) (i := 6) rfl (fm_dec dtX1_outcome 8 rfl) ?_
      refine pv_bipush (pc := 17) (v := 24) (by decide) (fm_dec dtX1_outcome 9 rfl) ?_
      refine pv_icmp_ge (pc := 19) 191 (by decide) (fm_dec dtX1_outcome 10 rfl) (fun hc19 => by exfalso; rw [sc_le] at hc19; have h9 : (24 : Int32).toInt = 24 := (by decide); omega) (fun _ => ?_)
      refine pv_aloadn (pc := 22) (n := 0) 0 rfl rfl (fm_dec dtX1_outcome 11 rfl) ?_
      refine pv_getR (k := 23) (j := 0) (ci := 1) (pc := 23) 24 rfl (by decide) pfl_X1_9 (by decide) rfl (by decide) (fm_dec dtX1_outcome 12 rfl) ?_
      refine pv_iload (pc := 26) (i := 7) rfl (fm_dec dtX1_outcome 13 rfl) ?_
      refine pv_iald (k := 24) (n := 150) (pc := 28) (by decide) rfl rfl (ix_in hii (by rw [sc_le] at hc12; have h9 := hfr 23 3 (by decide); rw [h9] at hc12; omega)) (fm_dec dtX1_outcome 14 rfl) ?_
      refine pv_istore (pc := 29) (i := 8) (by decide) rfl (fm_dec dtX1_outcome 15 rfl) ?_
      dsimp only [List.set_cons_zero, List.set_cons_succ]
      have hil : i < cs.length := (by rw [sc_le] at hc12; have h9 := hfr 23 3 (by decide); rw [h9] at hc12; omega)
      have hi9 : ii.toNatClampNeg = i := i32_cl hii
      obtain ⟨c, hci⟩ : ∃ c, cs[i]? = some c := ⟨cs[i], List.getElem?_eq_getElem hil⟩
      have hdr : cs.drop i = c :: cs.drop (i + 1) := (by rw [List.drop_eq_getElem_cons hil]; congr 1; exact (List.getElem?_eq_some_iff.mp hci).2)
      have hx : (M.1 24 ii.toNatClampNeg).toInt = cdV c := (by rw [hi9, hfr 24 i (by decide)]; exact hcd i c hci)
      have hdB0 := hdB
      rw [hdr] at hdB
      simp only [dpB] at hdB
      by_cases hc2 : c.1 < 2
      · rw [if_pos hc2] at hdB
        split at hdB
        · rename_i hg
          refine pv_iload (pc := 31) (i := 8) rfl (fm_dec dtX1_outcome 16 rfl) ?_
          refine pv_bipush (pc := 33) (v := (-6)) (by decide) (fm_dec dtX1_outcome 17 rfl) ?_
          refine pv_icmp_gt (pc := 35) 80 (by decide) (fm_dec dtX1_outcome 18 rfl) (fun _ => ?_) (fun hc35 => by exfalso; rw [sc_lt] at hc35; rw [hx] at hc35; have h9 : (-6 : Int32).toInt = -6 := (by decide); apply hc35; unfold cdV; split; omega; split; omega; omega)
          have hc01 : c.1 = 0 ∨ c.1 = 1 := (by omega)
          rcases hc01 with hc0 | hc1
          · have hx0 : 0 ≤ (M.1 24 ii.toNatClampNeg).toInt := (by rw [hx]; unfold cdV; rw [if_pos hc0]; omega)
            have ev : Int32.ofInt (c.2 : Int) = M.1 24 ii.toNatClampNeg := i32_ext (by rw [hx]; unfold cdV; rw [if_pos hc0]; exact Int32.toInt_ofInt_of_le (by omega) (by omega))
            refine pv_iload (pc := 80) (i := 8) rfl (fm_dec dtX1_outcome 42 rfl) ?_
            refine pv_table (pc := 82) 173 (by decide) (tsw_x hx0) (fm_dec dtX1_outcome 43 rfl) ?_
            refine pv_aloadn (pc := 173) (n := 0) 0 rfl rfl (fm_dec dtX1_outcome 74 rfl) ?_
            refine pv_getR (k := 23) (j := 2) (ci := 1) (pc := 174) 26 rfl (by decide) pfl_X1_18 (by decide) rfl (by decide) (fm_dec dtX1_outcome 75 rfl) ?_
            refine pv_iload (pc := 177) (i := 6) rfl (fm_dec dtX1_outcome 76 rfl) ?_
            refine pv_iload (pc := 179) (i := 8) rfl (fm_dec dtX1_outcome 77 rfl) ?_
            refine pv_iast (k := 26) (n := 24) (pc := 181) (by decide) rfl rfl (ix_in htp (by omega)) (fm_dec dtX1_outcome 78 rfl) ?_
            refine pv_iincc (pc := 182) 6 1 (by decide) rfl (by decide) rfl (fm_dec dtX1_outcome 79 rfl) ?_
            dsimp only [List.set_cons_zero, List.set_cons_succ]
            refine pv_iincc (pc := 185) 7 1 (by decide) rfl (by decide) rfl (fm_dec dtX1_outcome 80 rfl) ?_
            dsimp only [List.set_cons_zero, List.set_cons_succ]
            refine pv_goto (pc := 188) 6 (by decide) (fm_dec dtX1_outcome 81 rfl) ?_
            rw [i32_cl htp]
            have eL : lwR (knF a1 a2 a3 a4 a5) (cs.drop i) d (M.1 26) = lwR (knF a1 a2 a3 a4 a5) (cs.drop (i + 1)) (d + 1) ((fmI M 26 d (M.1 24 ii.toNatClampNeg)).1 26) := (by rw [hdr, fmI_row]; simp only [lwR]; rw [if_pos hc2, if_pos hc0, ev])
            exact ih (cs.length - (i + 1)) (by omega) _ (i + 1) (d + 1) _ _ _ rfl hil (i32_p1 hii (by omega)) (i32_p1 htp (by omega)) (by omega) hdB (fun k j h => (by rw [fmI_k _ _ h]; exact hfr k j h)) hfr2 (fun M9 tp9 ii9 v9 g1 g2 g3 => hq M9 tp9 ii9 v9 g1 g2 (g3.trans eL.symm))
          · have hc5 : c.2 = 0 ∨ c.2 = 1 ∨ c.2 = 2 ∨ c.2 = 3 ∨ c.2 = 4 := (by omega)
            rcases hc5 with e5 | e5 | e5 | e5 | e5
            · have ex : M.1 24 ii.toNatClampNeg = (-1) := i32_ext (by rw [hx]; unfold cdV; rw [if_neg (by omega), if_pos hc1, e5]; decide)
              rw [ex]
              refine pv_iload (pc := 80) (i := 8) rfl (fm_dec dtX1_outcome 42 rfl) ?_
              refine pv_table (pc := 82) 116 (by decide) rfl (fm_dec dtX1_outcome 43 rfl) ?_
              refine pv_aloadn (pc := 116) (n := 0) 0 rfl rfl (fm_dec dtX1_outcome 44 rfl) ?_
              refine pv_getR (k := 23) (j := 2) (ci := 1) (pc := 117) 26 rfl (by decide) pfl_X1_18 (by decide) rfl (by decide) (fm_dec dtX1_outcome 45 rfl) ?_
              refine pv_iload (pc := 120) (i := 6) rfl (fm_dec dtX1_outcome 46 rfl) ?_
              refine pv_iloadn (pc := 122) (n := 1) 1 rfl rfl (fm_dec dtX1_outcome 47 rfl) ?_
              refine pv_iast (k := 26) (n := 24) (pc := 123) (by decide) rfl rfl (ix_in htp (by omega)) (fm_dec dtX1_outcome 48 rfl) ?_
              refine pv_goto (pc := 124) 182 (by decide) (fm_dec dtX1_outcome 49 rfl) ?_
              refine pv_iincc (pc := 182) 6 1 (by decide) rfl (by decide) rfl (fm_dec dtX1_outcome 79 rfl) ?_
              dsimp only [List.set_cons_zero, List.set_cons_succ]
              refine pv_iincc (pc := 185) 7 1 (by decide) rfl (by decide) rfl (fm_dec dtX1_outcome 80 rfl) ?_
              dsimp only [List.set_cons_zero, List.set_cons_succ]
              refine pv_goto (pc := 188) 6 (by decide) (fm_dec dtX1_outcome 81 rfl) ?_
              rw [i32_cl htp]
              have eL : lwR (knF a1 a2 a3 a4 a5) (cs.drop i) d (M.1 26) = lwR (knF a1 a2 a3 a4 a5) (cs.drop (i + 1)) (d + 1) ((fmI M 26 d a1).1 26) := (by rw [hdr, fmI_row]; simp only [lwR]; rw [if_pos hc2, if_neg (by omega), e5]; rfl)
              exact ih (cs.length - (i + 1)) (by omega) _ (i + 1) (d + 1) _ _ _ rfl hil (i32_p1 hii (by omega)) (i32_p1 htp (by omega)) (by omega) hdB (fun k j h => (by rw [fmI_k _ _ h]; exact hfr k j h)) hfr2 (fun M9 tp9 ii9 v9 g1 g2 g3 => hq M9 tp9 ii9 v9 g1 g2 (g3.trans eL.symm))
            · have ex : M.1 24 ii.toNatClampNeg = (-2) := i32_ext (by rw [hx]; unfold cdV; rw [if_neg (by omega), if_pos hc1, e5]; decide)
              rw [ex]
              refine pv_iload (pc := 80) (i := 8) rfl (fm_dec dtX1_outcome 42 rfl) ?_
              refine pv_table (pc := 82) 127 (by decide) rfl (fm_dec dtX1_outcome 43 rfl) ?_
              refine pv_aloadn (pc := 127) (n := 0) 0 rfl rfl (fm_dec dtX1_outcome 50 rfl) ?_
              refine pv_getR (k := 23) (j := 2) (ci := 1) (pc := 128) 26 rfl (by decide) pfl_X1_18 (by decide) rfl (by decide) (fm_dec dtX1_outcome 51 rfl) ?_
              refine pv_iload (pc := 131) (i := 6) rfl (fm_dec dtX1_outcome 52 rfl) ?_
              refine pv_iloadn (pc := 133) (n := 2) 2 rfl rfl (fm_dec dtX1_outcome 53 rfl) ?_
              refine pv_iast (k := 26) (n := 24) (pc := 134) (by decide) rfl rfl (ix_in htp (by omega)) (fm_dec dtX1_outcome 54 rfl) ?_
              refine pv_goto (pc := 135) 182 (by decide) (fm_dec dtX1_outcome 55 rfl) ?_
              refine pv_iincc (pc := 182) 6 1 (by decide) rfl (by decide) rfl (fm_dec dtX1_outcome 79 rfl) ?_
              dsimp only [List.set_cons_zero, List.set_cons_succ]
              refine pv_iincc (pc := 185) 7 1 (by decide) rfl (by decide) rfl (fm_dec dtX1_outcome 80 rfl) ?_
              dsimp only [List.set_cons_zero, List.set_cons_succ]
              refine pv_goto (pc := 188) 6 (by decide) (fm_dec dtX1_outcome 81 rfl) ?_
              rw [i32_cl htp]
              have eL : lwR (knF a1 a2 a3 a4 a5) (cs.drop i) d (M.1 26) = lwR (knF a1 a2 a3 a4 a5) (cs.drop (i + 1)) (d + 1) ((fmI M 26 d a2).1 26) := (by rw [hdr, fmI_row]; simp only [lwR]; rw [if_pos hc2, if_neg (by omega), e5]; rfl)
              exact ih (cs.length - (i + 1)) (by omega) _ (i + 1) (d + 1) _ _ _ rfl hil (i32_p1 hii (by omega)) (i32_p1 htp (by omega)) (by omega) hdB (fun k j h => (by rw [fmI_k _ _ h]; exact hfr k j h)) hfr2 (fun M9 tp9 ii9 v9 g1 g2 g3 => hq M9 tp9 ii9 v9 g1 g2 (g3.trans eL.symm))
            · have ex : M.1 24 ii.toNatClampNeg = (-3) := i32_ext (by rw [hx]; unfold cdV; rw [if_neg (by omega), if_pos hc1, e5]; decide)
              rw [ex]
              refine pv_iload (pc := 80) (i := 8) rfl (fm_dec dtX1_outcome 42 rfl) ?_
              refine pv_table (pc := 82) 138 (by decide) rfl (fm_dec dtX1_outcome 43 rfl) ?_
              refine pv_aloadn (pc := 138) (n := 0) 0 rfl rfl (fm_dec dtX1_outcome 56 rfl) ?_
              refine pv_getR (k := 23) (j := 2) (ci := 1) (pc := 139) 26 rfl (by decide) pfl_X1_18 (by decide) rfl (by decide) (fm_dec dtX1_outcome 57 rfl) ?_
              refine pv_iload (pc := 142) (i := 6) rfl (fm_dec dtX1_outcome 58 rfl) ?_
              refine pv_iloadn (pc := 144) (n := 3) 3 rfl rfl (fm_dec dtX1_outcome 59 rfl) ?_
              refine pv_iast (k := 26) (n := 24) (pc := 145) (by decide) rfl rfl (ix_in htp (by omega)) (fm_dec dtX1_outcome 60 rfl) ?_
              refine pv_goto (pc := 146) 182 (by decide) (fm_dec dtX1_outcome 61 rfl) ?_
              refine pv_iincc (pc := 182) 6 1 (by decide) rfl (by decide) rfl (fm_dec dtX1_outcome 79 rfl) ?_
              dsimp only [List.set_cons_zero, List.set_cons_succ]
              refine pv_iincc (pc := 185) 7 1 (by decide) rfl (by decide) rfl (fm_dec dtX1_outcome 80 rfl) ?_
              dsimp only [List.set_cons_zero, List.set_cons_succ]
              refine pv_goto (pc := 188) 6 (by decide) (fm_dec dtX1_outcome 81 rfl) ?_
              rw [i32_cl htp]
              have eL : lwR (knF a1 a2 a3 a4 a5) (cs.drop i) d (M.1 26) = lwR (knF a1 a2 a3 a4 a5) (cs.drop (i + 1)) (d + 1) ((fmI M 26 d a3).1 26) := (by rw [hdr, fmI_row]; simp only [lwR]; rw [if_pos hc2, if_neg (by omega), e5]; rfl)
              exact ih (cs.length - (i + 1)) (by omega) _ (i + 1) (d + 1) _ _ _ rfl hil (i32_p1 hii (by omega)) (i32_p1 htp (by omega)) (by omega) hdB (fun k j h => (by rw [fmI_k _ _ h]; exact hfr k j h)) hfr2 (fun M9 tp9 ii9 v9 g1 g2 g3 => hq M9 tp9 ii9 v9 g1 g2 (g3.trans eL.symm))
            · have ex : M.1 24 ii.toNatClampNeg = (-4) := i32_ext (by rw [hx]; unfold cdV; rw [if_neg (by omega), if_pos hc1, e5]; decide)
              rw [ex]
              refine pv_iload (pc := 80) (i := 8) rfl (fm_dec dtX1_outcome 42 rfl) ?_
              refine pv_table (pc := 82) 149 (by decide) rfl (fm_dec dtX1_outcome 43 rfl) ?_
              refine pv_aloadn (pc := 149) (n := 0) 0 rfl rfl (fm_dec dtX1_outcome 62 rfl) ?_
              refine pv_getR (k := 23) (j := 2) (ci := 1) (pc := 150) 26 rfl (by decide) pfl_X1_18 (by decide) rfl (by decide) (fm_dec dtX1_outcome 63 rfl) ?_
              refine pv_iload (pc := 153) (i := 6) rfl (fm_dec dtX1_outcome 64 rfl) ?_
              refine pv_iload (pc := 155) (i := 4) rfl (fm_dec dtX1_outcome 65 rfl) ?_
              refine pv_iast (k := 26) (n := 24) (pc := 157) (by decide) rfl rfl (ix_in htp (by omega)) (fm_dec dtX1_outcome 66 rfl) ?_
              refine pv_goto (pc := 158) 182 (by decide) (fm_dec dtX1_outcome 67 rfl) ?_
              refine pv_iincc (pc := 182) 6 1 (by decide) rfl (by decide) rfl (fm_dec dtX1_outcome 79 rfl) ?_
              dsimp only [List.set_cons_zero, List.set_cons_succ]
              refine pv_iincc (pc := 185) 7 1 (by decide) rfl (by decide) rfl (fm_dec dtX1_outcome 80 rfl) ?_
              dsimp only [List.set_cons_zero, List.set_cons_succ]
              refine pv_goto (pc := 188) 6 (by decide) (fm_dec dtX1_outcome 81 rfl) ?_
              rw [i32_cl htp]
              have eL : lwR (knF a1 a2 a3 a4 a5) (cs.drop i) d (M.1 26) = lwR (knF a1 a2 a3 a4 a5) (cs.drop (i + 1)) (d + 1) ((fmI M 26 d a4).1 26) := (by rw [hdr, fmI_row]; simp only [lwR]; rw [if_pos hc2, if_neg (by omega), e5]; rfl)
              exact ih (cs.length - (i + 1)) (by omega) _ (i + 1) (d + 1) _ _ _ rfl hil (i32_p1 hii (by omega)) (i32_p1 htp (by omega)) (by omega) hdB (fun k j h => (by rw [fmI_k _ _ h]; exact hfr k j h)) hfr2 (fun M9 tp9 ii9 v9 g1 g2 g3 => hq M9 tp9 ii9 v9 g1 g2 (g3.trans eL.symm))
            · have ex : M.1 24 ii.toNatClampNeg = (-5) := i32_ext (by rw [hx]; unfold cdV; rw [if_neg (by omega), if_pos hc1, e5]; decide)
              rw [ex]
              refine pv_iload (pc := 80) (i := 8) rfl (fm_dec dtX1_outcome 42 rfl) ?_
              refine pv_table (pc := 82) 161 (by decide) rfl (fm_dec dtX1_outcome 43 rfl) ?_
              refine pv_aloadn (pc := 161) (n := 0) 0 rfl rfl (fm_dec dtX1_outcome 68 rfl) ?_
              refine pv_getR (k := 23) (j := 2) (ci := 1) (pc := 162) 26 rfl (by decide) pfl_X1_18 (by decide) rfl (by decide) (fm_dec dtX1_outcome 69 rfl) ?_
              refine pv_iload (pc := 165) (i := 6) rfl (fm_dec dtX1_outcome 70 rfl) ?_
              refine pv_iload (pc := 167) (i := 5) rfl (fm_dec dtX1_outcome 71 rfl) ?_
              refine pv_iast (k := 26) (n := 24) (pc := 169) (by decide) rfl rfl (ix_in htp (by omega)) (fm_dec dtX1_outcome 72 rfl) ?_
              refine pv_goto (pc := 170) 182 (by decide) (fm_dec dtX1_outcome 73 rfl) ?_
              refine pv_iincc (pc := 182) 6 1 (by decide) rfl (by decide) rfl (fm_dec dtX1_outcome 79 rfl) ?_
              dsimp only [List.set_cons_zero, List.set_cons_succ]
              refine pv_iincc (pc := 185) 7 1 (by decide) rfl (by decide) rfl (fm_dec dtX1_outcome 80 rfl) ?_
              dsimp only [List.set_cons_zero, List.set_cons_succ]
              refine pv_goto (pc := 188) 6 (by decide) (fm_dec dtX1_outcome 81 rfl) ?_
              rw [i32_cl htp]
              have eL : lwR (knF a1 a2 a3 a4 a5) (cs.drop i) d (M.1 26) = lwR (knF a1 a2 a3 a4 a5) (cs.drop (i + 1)) (d + 1) ((fmI M 26 d a5).1 26) := (by rw [hdr, fmI_row]; simp only [lwR]; rw [if_pos hc2, if_neg (by omega), e5]; rfl)
              exact ih (cs.length - (i + 1)) (by omega) _ (i + 1) (d + 1) _ _ _ rfl hil (i32_p1 hii (by omega)) (i32_p1 htp (by omega)) (by omega) hdB (fun k j h => (by rw [fmI_k _ _ h]; exact hfr k j h)) hfr2 (fun M9 tp9 ii9 v9 g1 g2 g3 => hq M9 tp9 ii9 v9 g1 g2 (g3.trans eL.symm))
        · cases hdB
      · rw [if_neg hc2] at hdB
        split at hdB
        · rename_i hg
          have hx2 : (M.1 24 ii.toNatClampNeg).toInt = cdV (c.1, 0) := (by have e0 : ¬ c.1 = 0 := (by omega); have e1 : ¬ c.1 = 1 := (by omega); rw [hx]; unfold cdV; simp only [if_neg e0, if_neg e1])
          have hd1 : (tp + -1).toInt = ((d - 1 : Nat) : Int) := sub1 htp hg.1 (by omega)
          have hd2 : (tp + -1 - 1).toInt = ((d - 2 : Nat) : Int) := sub2 htp hg.1 (by omega)
          refine pv_iload (pc := 31) (i := 8) rfl (fm_dec dtX1_outcome 16 rfl) ?_
          refine pv_bipush (pc := 33) (v := (-6)) (by decide) (fm_dec dtX1_outcome 17 rfl) ?_
          refine pv_icmp_gt (pc := 35) 80 (by decide) (fm_dec dtX1_outcome 18 rfl) (fun hc35 => by exfalso; rw [sc_lt, hx2] at hc35; have h9 : (-6 : Int32).toInt = -6 := (by decide); revert hc35; unfold cdV; rw [if_neg (by omega), if_neg (by omega)]; split <;> omega) (fun _ => ?_)
          refine pv_iload (pc := 38) (i := 6) rfl (fm_dec dtX1_outcome 19 rfl) ?_
          refine pv_iconst (pc := 40) (v := 2) (by decide) (fm_dec dtX1_outcome 20 rfl) ?_
          refine pv_icmp_lt (pc := 41) 80 (by decide) (fm_dec dtX1_outcome 21 rfl) (fun hc41 => by exfalso; rw [sc_lt] at hc41; have h9 : (2 : Int32).toInt = 2 := (by decide); omega) (fun _ => ?_)
          refine pv_iincc (pc := 44) 6 (-1) (by decide) rfl (by decide) rfl (fm_dec dtX1_outcome 22 rfl) ?_
          dsimp only [List.set_cons_zero, List.set_cons_succ]
          refine pv_aloadn (pc := 47) (n := 0) 0 rfl rfl (fm_dec dtX1_outcome 23 rfl) ?_
          refine pv_getR (k := 23) (j := 2) (ci := 1) (pc := 48) 26 rfl (by decide) pfl_X1_18 (by decide) rfl (by decide) (fm_dec dtX1_outcome 24 rfl) ?_
          refine pv_iload (pc := 51) (i := 6) rfl (fm_dec dtX1_outcome 25 rfl) ?_
          refine pv_iconst (pc := 53) (v := 1) (by decide) (fm_dec dtX1_outcome 26 rfl) ?_
          refine pv_isub (pc := 54) (fm_dec dtX1_outcome 27 rfl) ?_
          refine pv_iload (pc := 55) (i := 8) rfl (fm_dec dtX1_outcome 28 rfl) ?_
          refine pv_aloadn (pc := 57) (n := 0) 0 rfl rfl (fm_dec dtX1_outcome 29 rfl) ?_
          refine pv_getR (k := 23) (j := 2) (ci := 1) (pc := 58) 26 rfl (by decide) pfl_X1_18 (by decide) rfl (by decide) (fm_dec dtX1_outcome 30 rfl) ?_
          refine pv_iload (pc := 61) (i := 6) rfl (fm_dec dtX1_outcome 31 rfl) ?_
          refine pv_iconst (pc := 63) (v := 1) (by decide) (fm_dec dtX1_outcome 32 rfl) ?_
          refine pv_isub (pc := 64) (fm_dec dtX1_outcome 33 rfl) ?_
          refine pv_iald (k := 26) (n := 24) (pc := 65) (by decide) rfl rfl (ix_in hd2 (by omega)) (fm_dec dtX1_outcome 34 rfl) ?_
          refine pv_aloadn (pc := 66) (n := 0) 0 rfl rfl (fm_dec dtX1_outcome 35 rfl) ?_
          refine pv_getR (k := 23) (j := 2) (ci := 1) (pc := 67) 26 rfl (by decide) pfl_X1_18 (by decide) rfl (by decide) (fm_dec dtX1_outcome 36 rfl) ?_
          refine pv_iload (pc := 70) (i := 6) rfl (fm_dec dtX1_outcome 37 rfl) ?_
          refine pv_iald (k := 26) (n := 24) (pc := 72) (by decide) rfl rfl (ix_in hd1 (by omega)) (fm_dec dtX1_outcome 38 rfl) ?_
          refine pv_iS3 (d' := 0) (pc := 73) pcs_X1_85 (Nat.le_of_ble_eq_true rfl) (by decide) (fm_dec dtX1_outcome 39 rfl) ?_
          refine c_joined (c := c.1) (by omega) hg.2 hx2 ?_
          refine pv_then1 ?_
          refine pv_iast (k := 26) (n := 24) (pc := 76) (by decide) rfl rfl (ix_in hd2 (by omega)) (fm_dec dtX1_outcome 40 rfl) ?_
          refine pv_goto (pc := 77) 185 (by decide) (fm_dec dtX1_outcome 41 rfl) ?_
          refine pv_iincc (pc := 185) 7 1 (by decide) rfl (by decide) rfl (fm_dec dtX1_outcome 80 rfl) ?_
          dsimp only [List.set_cons_zero, List.set_cons_succ]
          refine pv_goto (pc := 188) 6 (by decide) (fm_dec dtX1_outcome 81 rfl) ?_
          rw [i32_cl hd1, i32_cl hd2]
          have eL : lwR (knF a1 a2 a3 a4 a5) (cs.drop i) d (M.1 26) = lwR (knF a1 a2 a3 a4 a5) (cs.drop (i + 1)) (d - 1) ((fmI M 26 (d - 2) (opV c.1 (M.1 26 (d - 2)) (M.1 26 (d - 1)))).1 26) := (by rw [hdr, fmI_row]; simp only [lwR]; rw [if_neg hc2])
          exact ih (cs.length - (i + 1)) (by omega) _ (i + 1) (d - 1) _ _ _ rfl hil (i32_p1 hii (by omega)) hd1 (by omega) hdB (fun k j h => (by rw [fmI_k _ _ h]; exact hfr k j h)) hfr2 (fun M9 tp9 ii9 v9 g1 g2 g3 => hq M9 tp9 ii9 v9 g1 g2 (g3.trans eL.symm))
        · cases hdB
def outV (x : Int32) : Int32 := pvMx true 0 (pvMx false 64 x)
set_option maxRecDepth 20000 in
theorem c_xout {M : fmM} {Q : fmR → fmM → Prop} {cs : tC} {a1 a2 a3 a4 a5 : Int32} (hsz : (M.1 23 3).toInt = (cs.length : Int)) (h150 : cs.length ≤ 150) (hcd : ∀ i c, cs[i]? = some c → (M.1 24 i).toInt = cdV c) (hd : dpB 23 0 cs = some 1) (hq : ∀ M' : fmM, (∀ k j, k ≠ 26 → M'.1 k j = M.1 k j) → M'.2 = M.2 → Q (.inl (some (.int (outV (lwR (knF a1 a2 a3 a4 a5) cs 0 (M.1 26)))))) M') : pvGood Tx 1 qX1_outcome [.ref 23, .int a1, .int a2, .int a3, .int a4, .int a5] M Q := by
  refine pvGood_of (Nat.le_of_ble_eq_true rfl) ?_
  show pvEv Tx 1 qX1_outcome 0 [some (.ref 23), some (.int a1), some (.int a2), some (.int a3), some (.int a4), some (.int a5), none, none, none] [] M Q
  refine pv_iconst (pc := 0) (v := 0) (by decide) (fm_dec dtX1_outcome 0 rfl) ?_
  refine pv_istore (pc := 1) (i := 6) (by decide) rfl (fm_dec dtX1_outcome 1 rfl) ?_
  dsimp only [List.set_cons_zero, List.set_cons_succ]
  refine pv_iconst (pc := 3) (v := 0) (by decide) (fm_dec dtX1_outcome 2 rfl) ?_
  refine pv_istore (pc := 4) (i := 7) (by decide) rfl (fm_dec dtX1_outcome 3 rfl) ?_
  dsimp only [List.set_cons_zero, List.set_cons_succ]
  refine xo_loop hsz h150 hcd _ M 0 0 0 0 _ rfl (Nat.zero_le _) (by decide) (by decide) (by decide) hd (fun _ _ _ => rfl) rfl (fun M9 tp9 ii9 v9 g1 g2 g3 => ?_)
  rw [List.drop_zero] at g3
  refine pv_iconst (pc := 191) (v := 0) (by decide) (fm_dec dtX1_outcome 82 rfl) ?_
  refine pv_bipush (pc := 192) (v := 64) (by decide) (fm_dec dtX1_outcome 83 rfl) ?_
  refine pv_aloadn (pc := 194) (n := 0) 0 rfl rfl (fm_dec dtX1_outcome 84 rfl) ?_
  refine pv_getR (k := 23) (j := 2) (ci := 1) (pc := 195) 26 rfl (by decide) pfl_X1_18 (by decide) rfl (by decide) (fm_dec dtX1_outcome 85 rfl) ?_
  refine pv_iconst (pc := 198) (v := 0) (by decide) (fm_dec dtX1_outcome 86 rfl) ?_
  refine pv_iald (k := 26) (n := 24) (pc := 199) (by decide) rfl rfl (fm_inl (by decide)) (fm_dec dtX1_outcome 87 rfl) ?_
  refine pv_mm (pc := 200) pmm_X1_89 (by decide) (Nat.le_of_ble_eq_true rfl) (fm_dec dtX1_outcome 88 rfl) ?_
  refine pv_mm (pc := 203) pmm_X1_94 (by decide) (Nat.le_of_ble_eq_true rfl) (fm_dec dtX1_outcome 89 rfl) ?_
  exact pv_ireturn (pc := 206) rfl (fm_dec dtX1_outcome 90 rfl) (by rw [show M9.1 26 (0 : Int32).toNatClampNeg = M9.1 26 0 from rfl, g3]; exact hq M9 g1 g2)
