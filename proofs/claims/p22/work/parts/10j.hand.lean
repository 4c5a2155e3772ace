abbrev cc_hand_termOf : scC := (qX10_termOf, 0, [((-2147483648), 2147483647)], [.inr (.inl ((-9223372036854775808), 9223372036854775807)), .inr (.inl ((-9223372036854775808), 9223372036854775807)), .inl (some 0, 0)], [], [(2, ((-9223372036854775808), 9223372036854775807), [], [], [])], [])
abbrev cc_hand_addToRoom : scC := (qX10_addToRoom, 1, [(0, 7), (0, 200)], [.inr (.inr (.inl [0])), .inl (some 0, 0), .inl (some 1, 0)], [], [(0, (0, 0), [], [], [])], [(45, 0, 201)])
set_option maxRecDepth 20000 in
theorem tm_loop {Q : fmR → fmM → Prop} {M : fmM} (a b : Int64) (p : Int32) (hq : ∀ r : Int64, Q (.inl (some (.long r))) M) : ∀ (n i : Nat) (one oth : Int64) (v10 v11 : Option Value), i + n = 200 → pvEv Tx 0 qX10_termOf 9 [some (.long a), none, some (.long b), none, some (.int p), some (.long one), none, some (.long oth), none, some (.int (nI i)), v10, v11] [] M Q := by
  intro n
  induction n with
  | zero =>
    intro i one oth v10 v11 hi
    have e : i = 200 := by omega
    subst e
    refine pv_iload (pc := 9) (i := 9) rfl (fm_dec dtX10_termOf 6 rfl) ?_
    refine pv_sipush (pc := 11) (v := 200) (by decide) (fm_dec dtX10_termOf 7 rfl) ?_
    refine pv_icmp_ge (pc := 14) 45 (by decide) (fm_dec dtX10_termOf 8 rfl) (fun _ => ?_) (fun hc14 => by exfalso; exact hc14 (by decide))
    refine pv_lload (pc := 45) (i := 7) rfl (fm_dec dtX10_termOf 23 rfl) ?_
    refine pv_lconst (pc := 47) (v := 0) (by decide) (fm_dec dtX10_termOf 24 rfl) ?_
    refine pv_lcmp (pc := 48) (fm_dec dtX10_termOf 25 rfl) ?_
    refine pv_if_le (pc := 49) 57 (by decide) (fm_dec dtX10_termOf 26 rfl) (fun hc49 => ?_) (fun hc49 => ?_)
    · refine pv_lconst (pc := 57) (v := 1) (by decide) (fm_dec dtX10_termOf 29 rfl) ?_
      refine pv_lstore (pc := 58) (i := 9) (by decide) rfl (fm_dec dtX10_termOf 30 rfl) ?_
      dsimp only [List.set_cons_zero, List.set_cons_succ]
      refine pv_iload (pc := 60) (i := 4) rfl (fm_dec dtX10_termOf 31 rfl) ?_
      refine pv_if_ne (pc := 62) 69 (by decide) (fm_dec dtX10_termOf 32 rfl) (fun hc62 => ?_) (fun hc62 => ?_)
      · refine pv_lloadn (pc := 69) (n := 2) 2 rfl rfl (fm_dec dtX10_termOf 35 rfl) ?_
        refine pv_lload (pc := 70) (i := 9) rfl (fm_dec dtX10_termOf 36 rfl) ?_
        refine pv_ldiv (pc := 72) (by first | exact (fun e => hc49 (by subst e; decide)) | decide) (fm_dec dtX10_termOf 37 rfl) ?_
        exact pv_lreturn (pc := 73) rfl (fm_dec dtX10_termOf 38 rfl) (hq _)
      · refine pv_lloadn (pc := 65) (n := 0) 0 rfl rfl (fm_dec dtX10_termOf 33 rfl) ?_
        refine pv_goto (pc := 66) 70 (by decide) (fm_dec dtX10_termOf 34 rfl) ?_
        refine pv_lload (pc := 70) (i := 9) rfl (fm_dec dtX10_termOf 36 rfl) ?_
        refine pv_ldiv (pc := 72) (by first | exact (fun e => hc49 (by subst e; decide)) | decide) (fm_dec dtX10_termOf 37 rfl) ?_
        exact pv_lreturn (pc := 73) rfl (fm_dec dtX10_termOf 38 rfl) (hq _)
    · refine pv_lload (pc := 52) (i := 7) rfl (fm_dec dtX10_termOf 27 rfl) ?_
      refine pv_goto (pc := 54) 58 (by decide) (fm_dec dtX10_termOf 28 rfl) ?_
      refine pv_lstore (pc := 58) (i := 9) (by decide) rfl (fm_dec dtX10_termOf 30 rfl) ?_
      dsimp only [List.set_cons_zero, List.set_cons_succ]
      refine pv_iload (pc := 60) (i := 4) rfl (fm_dec dtX10_termOf 31 rfl) ?_
      refine pv_if_ne (pc := 62) 69 (by decide) (fm_dec dtX10_termOf 32 rfl) (fun hc62 => ?_) (fun hc62 => ?_)
      · refine pv_lloadn (pc := 69) (n := 2) 2 rfl rfl (fm_dec dtX10_termOf 35 rfl) ?_
        refine pv_lload (pc := 70) (i := 9) rfl (fm_dec dtX10_termOf 36 rfl) ?_
        refine pv_ldiv (pc := 72) (by first | exact (fun e => hc49 (by subst e; decide)) | decide) (fm_dec dtX10_termOf 37 rfl) ?_
        exact pv_lreturn (pc := 73) rfl (fm_dec dtX10_termOf 38 rfl) (hq _)
      · refine pv_lloadn (pc := 65) (n := 0) 0 rfl rfl (fm_dec dtX10_termOf 33 rfl) ?_
        refine pv_goto (pc := 66) 70 (by decide) (fm_dec dtX10_termOf 34 rfl) ?_
        refine pv_lload (pc := 70) (i := 9) rfl (fm_dec dtX10_termOf 36 rfl) ?_
        refine pv_ldiv (pc := 72) (by first | exact (fun e => hc49 (by subst e; decide)) | decide) (fm_dec dtX10_termOf 37 rfl) ?_
        exact pv_lreturn (pc := 73) rfl (fm_dec dtX10_termOf 38 rfl) (hq _)
  | succ n ih =>
    intro i one oth v10 v11 hi
    refine pv_iload (pc := 9) (i := 9) rfl (fm_dec dtX10_termOf 6 rfl) ?_
    refine pv_sipush (pc := 11) (v := 200) (by decide) (fm_dec dtX10_termOf 7 rfl) ?_
    refine pv_icmp_ge (pc := 14) 45 (by decide) (fm_dec dtX10_termOf 8 rfl) (fun hc14 => ?_) (fun hc14 => ?_)
    · refine pv_lload (pc := 45) (i := 7) rfl (fm_dec dtX10_termOf 23 rfl) ?_
      refine pv_lconst (pc := 47) (v := 0) (by decide) (fm_dec dtX10_termOf 24 rfl) ?_
      refine pv_lcmp (pc := 48) (fm_dec dtX10_termOf 25 rfl) ?_
      refine pv_if_le (pc := 49) 57 (by decide) (fm_dec dtX10_termOf 26 rfl) (fun hc49 => ?_) (fun hc49 => ?_)
      · refine pv_lconst (pc := 57) (v := 1) (by decide) (fm_dec dtX10_termOf 29 rfl) ?_
        refine pv_lstore (pc := 58) (i := 9) (by decide) rfl (fm_dec dtX10_termOf 30 rfl) ?_
        dsimp only [List.set_cons_zero, List.set_cons_succ]
        refine pv_iload (pc := 60) (i := 4) rfl (fm_dec dtX10_termOf 31 rfl) ?_
        refine pv_if_ne (pc := 62) 69 (by decide) (fm_dec dtX10_termOf 32 rfl) (fun hc62 => ?_) (fun hc62 => ?_)
        · refine pv_lloadn (pc := 69) (n := 2) 2 rfl rfl (fm_dec dtX10_termOf 35 rfl) ?_
          refine pv_lload (pc := 70) (i := 9) rfl (fm_dec dtX10_termOf 36 rfl) ?_
          refine pv_ldiv (pc := 72) (by first | exact (fun e => hc49 (by subst e; decide)) | decide) (fm_dec dtX10_termOf 37 rfl) ?_
          exact pv_lreturn (pc := 73) rfl (fm_dec dtX10_termOf 38 rfl) (hq _)
        · refine pv_lloadn (pc := 65) (n := 0) 0 rfl rfl (fm_dec dtX10_termOf 33 rfl) ?_
          refine pv_goto (pc := 66) 70 (by decide) (fm_dec dtX10_termOf 34 rfl) ?_
          refine pv_lload (pc := 70) (i := 9) rfl (fm_dec dtX10_termOf 36 rfl) ?_
          refine pv_ldiv (pc := 72) (by first | exact (fun e => hc49 (by subst e; decide)) | decide) (fm_dec dtX10_termOf 37 rfl) ?_
          exact pv_lreturn (pc := 73) rfl (fm_dec dtX10_termOf 38 rfl) (hq _)
      · refine pv_lload (pc := 52) (i := 7) rfl (fm_dec dtX10_termOf 27 rfl) ?_
        refine pv_goto (pc := 54) 58 (by decide) (fm_dec dtX10_termOf 28 rfl) ?_
        refine pv_lstore (pc := 58) (i := 9) (by decide) rfl (fm_dec dtX10_termOf 30 rfl) ?_
        dsimp only [List.set_cons_zero, List.set_cons_succ]
        refine pv_iload (pc := 60) (i := 4) rfl (fm_dec dtX10_termOf 31 rfl) ?_
        refine pv_if_ne (pc := 62) 69 (by decide) (fm_dec dtX10_termOf 32 rfl) (fun hc62 => ?_) (fun hc62 => ?_)
        · refine pv_lloadn (pc := 69) (n := 2) 2 rfl rfl (fm_dec dtX10_termOf 35 rfl) ?_
          refine pv_lload (pc := 70) (i := 9) rfl (fm_dec dtX10_termOf 36 rfl) ?_
          refine pv_ldiv (pc := 72) (by first | exact (fun e => hc49 (by subst e; decide)) | decide) (fm_dec dtX10_termOf 37 rfl) ?_
          exact pv_lreturn (pc := 73) rfl (fm_dec dtX10_termOf 38 rfl) (hq _)
        · refine pv_lloadn (pc := 65) (n := 0) 0 rfl rfl (fm_dec dtX10_termOf 33 rfl) ?_
          refine pv_goto (pc := 66) 70 (by decide) (fm_dec dtX10_termOf 34 rfl) ?_
          refine pv_lload (pc := 70) (i := 9) rfl (fm_dec dtX10_termOf 36 rfl) ?_
          refine pv_ldiv (pc := 72) (by first | exact (fun e => hc49 (by subst e; decide)) | decide) (fm_dec dtX10_termOf 37 rfl) ?_
          exact pv_lreturn (pc := 73) rfl (fm_dec dtX10_termOf 38 rfl) (hq _)
    · refine pv_lload (pc := 17) (i := 5) rfl (fm_dec dtX10_termOf 9 rfl) ?_
      refine pv_lconst (pc := 19) (v := 0) (by decide) (fm_dec dtX10_termOf 10 rfl) ?_
      refine pv_lcmp (pc := 20) (fm_dec dtX10_termOf 11 rfl) ?_
      refine pv_if_eq (pc := 21) 45 (by decide) (fm_dec dtX10_termOf 12 rfl) (fun hc21 => ?_) (fun hc21 => ?_)
      · refine pv_lload (pc := 45) (i := 7) rfl (fm_dec dtX10_termOf 23 rfl) ?_
        refine pv_lconst (pc := 47) (v := 0) (by decide) (fm_dec dtX10_termOf 24 rfl) ?_
        refine pv_lcmp (pc := 48) (fm_dec dtX10_termOf 25 rfl) ?_
        refine pv_if_le (pc := 49) 57 (by decide) (fm_dec dtX10_termOf 26 rfl) (fun hc49 => ?_) (fun hc49 => ?_)
        · refine pv_lconst (pc := 57) (v := 1) (by decide) (fm_dec dtX10_termOf 29 rfl) ?_
          refine pv_lstore (pc := 58) (i := 9) (by decide) rfl (fm_dec dtX10_termOf 30 rfl) ?_
          dsimp only [List.set_cons_zero, List.set_cons_succ]
          refine pv_iload (pc := 60) (i := 4) rfl (fm_dec dtX10_termOf 31 rfl) ?_
          refine pv_if_ne (pc := 62) 69 (by decide) (fm_dec dtX10_termOf 32 rfl) (fun hc62 => ?_) (fun hc62 => ?_)
          · refine pv_lloadn (pc := 69) (n := 2) 2 rfl rfl (fm_dec dtX10_termOf 35 rfl) ?_
            refine pv_lload (pc := 70) (i := 9) rfl (fm_dec dtX10_termOf 36 rfl) ?_
            refine pv_ldiv (pc := 72) (by first | exact (fun e => hc49 (by subst e; decide)) | decide) (fm_dec dtX10_termOf 37 rfl) ?_
            exact pv_lreturn (pc := 73) rfl (fm_dec dtX10_termOf 38 rfl) (hq _)
          · refine pv_lloadn (pc := 65) (n := 0) 0 rfl rfl (fm_dec dtX10_termOf 33 rfl) ?_
            refine pv_goto (pc := 66) 70 (by decide) (fm_dec dtX10_termOf 34 rfl) ?_
            refine pv_lload (pc := 70) (i := 9) rfl (fm_dec dtX10_termOf 36 rfl) ?_
            refine pv_ldiv (pc := 72) (by first | exact (fun e => hc49 (by subst e; decide)) | decide) (fm_dec dtX10_termOf 37 rfl) ?_
            exact pv_lreturn (pc := 73) rfl (fm_dec dtX10_termOf 38 rfl) (hq _)
        · refine pv_lload (pc := 52) (i := 7) rfl (fm_dec dtX10_termOf 27 rfl) ?_
          refine pv_goto (pc := 54) 58 (by decide) (fm_dec dtX10_termOf 28 rfl) ?_
          refine pv_lstore (pc := 58) (i := 9) (by decide) rfl (fm_dec dtX10_termOf 30 rfl) ?_
          dsimp only [List.set_cons_zero, List.set_cons_succ]
          refine pv_iload (pc := 60) (i := 4) rfl (fm_dec dtX10_termOf 31 rfl) ?_
          refine pv_if_ne (pc := 62) 69 (by decide) (fm_dec dtX10_termOf 32 rfl) (fun hc62 => ?_) (fun hc62 => ?_)
          · refine pv_lloadn (pc := 69) (n := 2) 2 rfl rfl (fm_dec dtX10_termOf 35 rfl) ?_
            refine pv_lload (pc := 70) (i := 9) rfl (fm_dec dtX10_termOf 36 rfl) ?_
            refine pv_ldiv (pc := 72) (by first | exact (fun e => hc49 (by subst e; decide)) | decide) (fm_dec dtX10_termOf 37 rfl) ?_
            exact pv_lreturn (pc := 73) rfl (fm_dec dtX10_termOf 38 rfl) (hq _)
          · refine pv_lloadn (pc := 65) (n := 0) 0 rfl rfl (fm_dec dtX10_termOf 33 rfl) ?_
            refine pv_goto (pc := 66) 70 (by decide) (fm_dec dtX10_termOf 34 rfl) ?_
            refine pv_lload (pc := 70) (i := 9) rfl (fm_dec dtX10_termOf 36 rfl) ?_
            refine pv_ldiv (pc := 72) (by first | exact (fun e => hc49 (by subst e; decide)) | decide) (fm_dec dtX10_termOf 37 rfl) ?_
            exact pv_lreturn (pc := 73) rfl (fm_dec dtX10_termOf 38 rfl) (hq _)
      · refine pv_lload (pc := 24) (i := 7) rfl (fm_dec dtX10_termOf 13 rfl) ?_
        refine pv_lload (pc := 26) (i := 5) rfl (fm_dec dtX10_termOf 14 rfl) ?_
        refine pv_lrem (pc := 28) (fun e => hc21 (by subst e; rfl)) (fm_dec dtX10_termOf 15 rfl) ?_
        refine pv_lstore (pc := 29) (i := 10) (by decide) rfl (fm_dec dtX10_termOf 16 rfl) ?_
        dsimp only [List.set_cons_zero, List.set_cons_succ]
        refine pv_lload (pc := 31) (i := 5) rfl (fm_dec dtX10_termOf 17 rfl) ?_
        refine pv_lstore (pc := 33) (i := 7) (by decide) rfl (fm_dec dtX10_termOf 18 rfl) ?_
        dsimp only [List.set_cons_zero, List.set_cons_succ]
        refine pv_lload (pc := 35) (i := 10) rfl (fm_dec dtX10_termOf 19 rfl) ?_
        refine pv_lstore (pc := 37) (i := 5) (by decide) rfl (fm_dec dtX10_termOf 20 rfl) ?_
        dsimp only [List.set_cons_zero, List.set_cons_succ]
        refine pv_iincc (pc := 39) 9 1 (by decide) rfl (by decide) rfl (fm_dec dtX10_termOf 21 rfl) ?_
        dsimp only [List.set_cons_zero, List.set_cons_succ]
        refine pv_goto (pc := 42) 9 (by decide) (fm_dec dtX10_termOf 22 rfl) ?_
        rw [nI_succ1]
        exact ih (i + 1) _ _ _ _ (by omega)
set_option maxRecDepth 20000 in
theorem c_termOf {M : fmM} {Q : fmR → fmM → Prop} (a b : Int64) (p : Int32) (hq : ∀ r : Int64, Q (.inl (some (.long r))) M) : pvGood Tx 0 qX10_termOf [.long a, .long b, .int p] M Q := by
  refine pvGood_of (Nat.le_of_ble_eq_true rfl) ?_
  show pvEv Tx 0 qX10_termOf 0 [some (.long a), none, some (.long b), none, some (.int p), none, none, none, none, none, none, none] [] M Q
  refine pv_lloadn (pc := 0) (n := 0) 0 rfl rfl (fm_dec dtX10_termOf 0 rfl) ?_
  refine pv_lstore (pc := 1) (i := 5) (by decide) rfl (fm_dec dtX10_termOf 1 rfl) ?_
  dsimp only [List.set_cons_zero, List.set_cons_succ]
  refine pv_lloadn (pc := 3) (n := 2) 2 rfl rfl (fm_dec dtX10_termOf 2 rfl) ?_
  refine pv_lstore (pc := 4) (i := 7) (by decide) rfl (fm_dec dtX10_termOf 3 rfl) ?_
  dsimp only [List.set_cons_zero, List.set_cons_succ]
  refine pv_iconst (pc := 6) (v := 0) (by decide) (fm_dec dtX10_termOf 4 rfl) ?_
  refine pv_istore (pc := 7) (i := 9) (by decide) rfl (fm_dec dtX10_termOf 5 rfl) ?_
  dsimp only [List.set_cons_zero, List.set_cons_succ]
  exact tm_loop a b p hq 200 0 _ _ _ _ (by omega)
theorem hh_hand_termOf : scH Tx invX cc_hand_termOf := by
  intro M σ as hE hS hF hI
  obtain ⟨a, st1, e1, ha, q1⟩ := scSk_j hS
  obtain ⟨b, st2, e2, hb, q2⟩ := scSk_j q1
  obtain ⟨p, st3, e3, hp, q3⟩ := scSk_i q2
  have e5 := scSk_0 q3
  subst e5
  subst e3
  subst e2
  subst e1
  exact c_termOf a b p (fun r => ⟨⟨_, List.mem_cons_self, ⟨r, rfl, (scq_l r).1, (scq_l r).2⟩, fun q hq => (by cases hq), fun q hq => (by cases hq)⟩, hI, scFr.rfl⟩)
theorem sc_evX {env : List scI} {σ : List Int} {i : Nat} {e : scI} {x : Int} (hE : scEk env σ) (he : env[i]? = some e) (h : scEv σ (some i, 0) x) : e.1 ≤ x ∧ x ≤ e.2 := by
  obtain ⟨v, hv, e1⟩ := h
  have h9 := hE.2 i e v he hv
  have e2 : x = v := e1.trans (Int.add_zero v)
  rw [e2]
  exact h9
theorem ar_wr {M0 M : fmM} {x v : Int32} {m : Nat} (hx : x.toInt = m) (hm : m ≤ 200) (h : scInv Tx invX M ∧ scFr [(45, 0, 201)] M0 M) : scInv Tx invX (fmI M 45 x.toNatClampNeg v) ∧ scFr [(45, 0, 201)] M0 (fmI M 45 x.toNatClampNeg v) := scWr_ok (ks := [45]) (a := 0) (n := 200) (e := scTop) (by decide) List.mem_cons_self (Nat.zero_le _) (by have h9 : x.toNatClampNeg = x.toInt.toNat := rfl; omega) (scq_t v) h.1 h.2
theorem ar_in {a : Int32} {m : Nat} (ha : a.toInt = m) (hm : m ≤ 200) : vp_in a 201 := vp_in_iff.mpr ⟨by omega, by omega⟩
theorem ar_3 {a : Int32} {m : Nat} (ha : a.toInt = m) (hm : m ≤ 200) (h : ¬ a < 3) : vp_in (a - 3) 201 := by
  have e3 : (3 : Int32).toInt = 3 := by decide
  rw [sc_lt] at h
  have e : (a - 3).toInt = a.toInt - (3 : Int32).toInt := sc_sub (by omega) (by omega)
  exact vp_in_iff.mpr ⟨by omega, by omega⟩
theorem ar_w {a w : Int32} {m : Nat} (ha : a.toInt = m) (hm : m ≤ 200) (hw : 0 ≤ w.toInt ∧ w.toInt ≤ 99) (h : ¬ a < w) : vp_in (a - w) 201 := by
  rw [sc_lt] at h
  have e : (a - w).toInt = a.toInt - w.toInt := sc_sub (by omega) (by omega)
  exact vp_in_iff.mpr ⟨by omega, by omega⟩
theorem ar_d {a : Int32} {m : Nat} (ha : a.toInt = m) (hm : m ≤ 200) : (a + -1).toInt = (m : Int) - 1 := by
  have e1 : (-1 : Int32).toInt = -1 := by decide
  rw [sc_add (by omega) (by omega)]
  omega
set_option maxRecDepth 20000 in
theorem c_roomShift {M : fmM} {Q : fmR → fmM → Prop} {i : Int32} (hq : ∀ x : Int32, Q (.inl (some (.int x))) M) : pvGood Tx 0 qX10_roomShift [.int i] M Q := by
  refine pvGood_of (Nat.le_of_ble_eq_true rfl) ?_
  show pvEv Tx 0 qX10_roomShift 0 [some (.int i)] [] M Q
  refine pv_iconst (pc := 0) (v := 2) (by decide) (fm_dec dtX10_roomShift 0 rfl) ?_
  refine pv_bipush (pc := 1) (v := 7) (by decide) (fm_dec dtX10_roomShift 1 rfl) ?_
  refine pv_iloadn (pc := 3) (n := 0) 0 rfl rfl (fm_dec dtX10_roomShift 2 rfl) ?_
  refine pv_isub (pc := 4) (fm_dec dtX10_roomShift 3 rfl) ?_
  refine pv_imul (pc := 5) (fm_dec dtX10_roomShift 4 rfl) ?_
  exact pv_ireturn (pc := 6) rfl (fm_dec dtX10_roomShift 5 rfl) (hq _)
set_option maxRecDepth 20000 in
theorem ar_loop {Q : fmR → fmM → Prop} {M0 : fmM} {i r w sh : Int32} (hw : 0 ≤ w.toInt ∧ w.toInt ≤ 99) (hq : ∀ M : fmM, scInv Tx invX M ∧ scFr [(45, 0, 201)] M0 M → Q (.inl none) M) : ∀ (m : Nat) (M : fmM) (a : Int32) (v6 : Option Value), m ≤ 201 → a.toInt = (m : Int) - 1 → scInv Tx invX M ∧ scFr [(45, 0, 201)] M0 M → pvEv Tx 1 qX10_addToRoom 27 [some (.ref 0), some (.int i), some (.int r), some (.int w), some (.int sh), some (.int a), v6] [] M Q := by
  intro m
  induction m with
  | zero =>
    intro M a v6 hm ha0 h
    refine pv_iload (pc := 27) (i := 5) rfl (fm_dec dtX10_addToRoom 15 rfl) ?_
    refine pv_if_lt (pc := 29) 120 (by decide) (fm_dec dtX10_addToRoom 16 rfl) (fun _ => ?_) (fun hc29 => by exfalso; exact hc29 (by rw [sc_lt]; have h9 : (0 : Int32).toInt = 0 := (by decide); omega))
    exact pv_return (pc := 120) rfl (fm_dec dtX10_addToRoom 69 rfl) (hq M h)
  | succ m ih =>
    intro M a v6 hm ha0 h
    have ha : a.toInt = (m : Int) := (by omega)
    refine pv_iload (pc := 27) (i := 5) rfl (fm_dec dtX10_addToRoom 15 rfl) ?_
    refine pv_if_lt (pc := 29) 120 (by decide) (fm_dec dtX10_addToRoom 16 rfl) (fun hc29 => by exfalso; rw [sc_lt] at hc29; have h9 : (0 : Int32).toInt = 0 := (by decide); omega) (fun _ => ?_)
    refine pv_aloadn (pc := 32) (n := 0) 0 rfl rfl (fm_dec dtX10_addToRoom 17 rfl) ?_
    refine pv_getR (k := 0) (j := 12) (ci := 10) (pc := 33) 45 rfl (by decide) pfl_X10_87 (by decide) rfl (by decide) (fm_dec dtX10_addToRoom 18 rfl) ?_
    refine pv_iload (pc := 36) (i := 5) rfl (fm_dec dtX10_addToRoom 19 rfl) ?_
    refine pv_iald (k := 45) (n := 201) (pc := 38) (by decide) rfl rfl (ar_in ha (by omega)) (fm_dec dtX10_addToRoom 20 rfl) ?_
    refine pv_istore (pc := 39) (i := 6) (by decide) rfl (fm_dec dtX10_addToRoom 21 rfl) ?_
    dsimp only [List.set_cons_zero, List.set_cons_succ]
    refine pv_iload (pc := 41) (i := 5) rfl (fm_dec dtX10_addToRoom 22 rfl) ?_
    refine pv_iconst (pc := 43) (v := 3) (by decide) (fm_dec dtX10_addToRoom 23 rfl) ?_
    refine pv_icmp_lt (pc := 44) 71 (by decide) (fm_dec dtX10_addToRoom 24 rfl) (fun hc44 => ?_) (fun hc44 => ?_)
    · refine pv_iload (pc := 71) (i := 5) rfl (fm_dec dtX10_addToRoom 40 rfl) ?_
      refine pv_iloadn (pc := 73) (n := 3) 3 rfl rfl (fm_dec dtX10_addToRoom 41 rfl) ?_
      refine pv_icmp_lt (pc := 74) 105 (by decide) (fm_dec dtX10_addToRoom 42 rfl) (fun hc74 => ?_) (fun hc74 => ?_)
      · refine pv_aloadn (pc := 105) (n := 0) 0 rfl rfl (fm_dec dtX10_addToRoom 62 rfl) ?_
        refine pv_getR (k := 0) (j := 12) (ci := 10) (pc := 106) 45 rfl (by decide) pfl_X10_87 (by decide) rfl (by decide) (fm_dec dtX10_addToRoom 63 rfl) ?_
        refine pv_iload (pc := 109) (i := 5) rfl (fm_dec dtX10_addToRoom 64 rfl) ?_
        refine pv_iload (pc := 111) (i := 6) rfl (fm_dec dtX10_addToRoom 65 rfl) ?_
        refine pv_iast (k := 45) (n := 201) (pc := 113) (by decide) rfl rfl (ar_in ha (by omega)) (fm_dec dtX10_addToRoom 66 rfl) ?_
        refine pv_iincc (pc := 114) 5 (-1) (by decide) rfl (by decide) rfl (fm_dec dtX10_addToRoom 67 rfl) ?_
        dsimp only [List.set_cons_zero, List.set_cons_succ]
        refine pv_goto (pc := 117) 27 (by decide) (fm_dec dtX10_addToRoom 68 rfl) ?_
        exact ih _ _ _ (by omega) (ar_d ha (by omega)) (ar_wr ha (by omega) h)
      · refine pv_iload (pc := 77) (i := 6) rfl (fm_dec dtX10_addToRoom 43 rfl) ?_
        refine pv_aloadn (pc := 79) (n := 0) 0 rfl rfl (fm_dec dtX10_addToRoom 44 rfl) ?_
        refine pv_getR (k := 0) (j := 12) (ci := 10) (pc := 80) 45 rfl (by decide) pfl_X10_87 (by decide) rfl (by decide) (fm_dec dtX10_addToRoom 45 rfl) ?_
        refine pv_iload (pc := 83) (i := 5) rfl (fm_dec dtX10_addToRoom 46 rfl) ?_
        refine pv_iloadn (pc := 85) (n := 3) 3 rfl rfl (fm_dec dtX10_addToRoom 47 rfl) ?_
        refine pv_isub (pc := 86) (fm_dec dtX10_addToRoom 48 rfl) ?_
        refine pv_iald (k := 45) (n := 201) (pc := 87) (by decide) rfl rfl (ar_w ha (by omega) hw hc74) (fm_dec dtX10_addToRoom 49 rfl) ?_
        refine pv_iconst (pc := 88) (v := 3) (by decide) (fm_dec dtX10_addToRoom 50 rfl) ?_
        refine pv_iloadn (pc := 89) (n := 3) 3 rfl rfl (fm_dec dtX10_addToRoom 51 rfl) ?_
        refine pv_imul (pc := 90) (fm_dec dtX10_addToRoom 52 rfl) ?_
        refine pv_bipush (pc := 91) (v := 16) (by decide) (fm_dec dtX10_addToRoom 53 rfl) ?_
        refine pv_ishl (pc := 93) (fm_dec dtX10_addToRoom 54 rfl) ?_
        refine pv_iadd (pc := 94) (fm_dec dtX10_addToRoom 55 rfl) ?_
        refine pv_iconst (pc := 95) (v := 2) (by decide) (fm_dec dtX10_addToRoom 56 rfl) ?_
        refine pv_iload (pc := 96) (i := 4) rfl (fm_dec dtX10_addToRoom 57 rfl) ?_
        refine pv_imul (pc := 98) (fm_dec dtX10_addToRoom 58 rfl) ?_
        refine pv_isub (pc := 99) (fm_dec dtX10_addToRoom 59 rfl) ?_
        refine pv_mm (pc := 100) pmm_X10_357 (by decide) (Nat.le_of_ble_eq_true rfl) (fm_dec dtX10_addToRoom 60 rfl) ?_
        refine pv_istore (pc := 103) (i := 6) (by decide) rfl (fm_dec dtX10_addToRoom 61 rfl) ?_
        dsimp only [List.set_cons_zero, List.set_cons_succ]
        refine pv_aloadn (pc := 105) (n := 0) 0 rfl rfl (fm_dec dtX10_addToRoom 62 rfl) ?_
        refine pv_getR (k := 0) (j := 12) (ci := 10) (pc := 106) 45 rfl (by decide) pfl_X10_87 (by decide) rfl (by decide) (fm_dec dtX10_addToRoom 63 rfl) ?_
        refine pv_iload (pc := 109) (i := 5) rfl (fm_dec dtX10_addToRoom 64 rfl) ?_
        refine pv_iload (pc := 111) (i := 6) rfl (fm_dec dtX10_addToRoom 65 rfl) ?_
        refine pv_iast (k := 45) (n := 201) (pc := 113) (by decide) rfl rfl (ar_in ha (by omega)) (fm_dec dtX10_addToRoom 66 rfl) ?_
        refine pv_iincc (pc := 114) 5 (-1) (by decide) rfl (by decide) rfl (fm_dec dtX10_addToRoom 67 rfl) ?_
        dsimp only [List.set_cons_zero, List.set_cons_succ]
        refine pv_goto (pc := 117) 27 (by decide) (fm_dec dtX10_addToRoom 68 rfl) ?_
        exact ih _ _ _ (by omega) (ar_d ha (by omega)) (ar_wr ha (by omega) h)
    · refine pv_iload (pc := 47) (i := 6) rfl (fm_dec dtX10_addToRoom 25 rfl) ?_
      refine pv_aloadn (pc := 49) (n := 0) 0 rfl rfl (fm_dec dtX10_addToRoom 26 rfl) ?_
      refine pv_getR (k := 0) (j := 12) (ci := 10) (pc := 50) 45 rfl (by decide) pfl_X10_87 (by decide) rfl (by decide) (fm_dec dtX10_addToRoom 27 rfl) ?_
      refine pv_iload (pc := 53) (i := 5) rfl (fm_dec dtX10_addToRoom 28 rfl) ?_
      refine pv_iconst (pc := 55) (v := 3) (by decide) (fm_dec dtX10_addToRoom 29 rfl) ?_
      refine pv_isub (pc := 56) (fm_dec dtX10_addToRoom 30 rfl) ?_
      refine pv_iald (k := 45) (n := 201) (pc := 57) (by decide) rfl rfl (ar_3 ha (by omega) hc44) (fm_dec dtX10_addToRoom 31 rfl) ?_
      refine pv_iloadn (pc := 58) (n := 3) 3 rfl rfl (fm_dec dtX10_addToRoom 32 rfl) ?_
      refine pv_bipush (pc := 59) (v := 16) (by decide) (fm_dec dtX10_addToRoom 33 rfl) ?_
      refine pv_ishl (pc := 61) (fm_dec dtX10_addToRoom 34 rfl) ?_
      refine pv_iadd (pc := 62) (fm_dec dtX10_addToRoom 35 rfl) ?_
      refine pv_iload (pc := 63) (i := 4) rfl (fm_dec dtX10_addToRoom 36 rfl) ?_
      refine pv_isub (pc := 65) (fm_dec dtX10_addToRoom 37 rfl) ?_
      refine pv_mm (pc := 66) pmm_X10_357 (by decide) (Nat.le_of_ble_eq_true rfl) (fm_dec dtX10_addToRoom 38 rfl) ?_
      refine pv_istore (pc := 69) (i := 6) (by decide) rfl (fm_dec dtX10_addToRoom 39 rfl) ?_
      dsimp only [List.set_cons_zero, List.set_cons_succ]
      refine pv_iload (pc := 71) (i := 5) rfl (fm_dec dtX10_addToRoom 40 rfl) ?_
      refine pv_iloadn (pc := 73) (n := 3) 3 rfl rfl (fm_dec dtX10_addToRoom 41 rfl) ?_
      refine pv_icmp_lt (pc := 74) 105 (by decide) (fm_dec dtX10_addToRoom 42 rfl) (fun hc74 => ?_) (fun hc74 => ?_)
      · refine pv_aloadn (pc := 105) (n := 0) 0 rfl rfl (fm_dec dtX10_addToRoom 62 rfl) ?_
        refine pv_getR (k := 0) (j := 12) (ci := 10) (pc := 106) 45 rfl (by decide) pfl_X10_87 (by decide) rfl (by decide) (fm_dec dtX10_addToRoom 63 rfl) ?_
        refine pv_iload (pc := 109) (i := 5) rfl (fm_dec dtX10_addToRoom 64 rfl) ?_
        refine pv_iload (pc := 111) (i := 6) rfl (fm_dec dtX10_addToRoom 65 rfl) ?_
        refine pv_iast (k := 45) (n := 201) (pc := 113) (by decide) rfl rfl (ar_in ha (by omega)) (fm_dec dtX10_addToRoom 66 rfl) ?_
        refine pv_iincc (pc := 114) 5 (-1) (by decide) rfl (by decide) rfl (fm_dec dtX10_addToRoom 67 rfl) ?_
        dsimp only [List.set_cons_zero, List.set_cons_succ]
        refine pv_goto (pc := 117) 27 (by decide) (fm_dec dtX10_addToRoom 68 rfl) ?_
        exact ih _ _ _ (by omega) (ar_d ha (by omega)) (ar_wr ha (by omega) h)
      · refine pv_iload (pc := 77) (i := 6) rfl (fm_dec dtX10_addToRoom 43 rfl) ?_
        refine pv_aloadn (pc := 79) (n := 0) 0 rfl rfl (fm_dec dtX10_addToRoom 44 rfl) ?_
        refine pv_getR (k := 0) (j := 12) (ci := 10) (pc := 80) 45 rfl (by decide) pfl_X10_87 (by decide) rfl (by decide) (fm_dec dtX10_addToRoom 45 rfl) ?_
        refine pv_iload (pc := 83) (i := 5) rfl (fm_dec dtX10_addToRoom 46 rfl) ?_
        refine pv_iloadn (pc := 85) (n := 3) 3 rfl rfl (fm_dec dtX10_addToRoom 47 rfl) ?_
        refine pv_isub (pc := 86) (fm_dec dtX10_addToRoom 48 rfl) ?_
        refine pv_iald (k := 45) (n := 201) (pc := 87) (by decide) rfl rfl (ar_w ha (by omega) hw hc74) (fm_dec dtX10_addToRoom 49 rfl) ?_
        refine pv_iconst (pc := 88) (v := 3) (by decide) (fm_dec dtX10_addToRoom 50 rfl) ?_
        refine pv_iloadn (pc := 89) (n := 3) 3 rfl rfl (fm_dec dtX10_addToRoom 51 rfl) ?_
        refine pv_imul (pc := 90) (fm_dec dtX10_addToRoom 52 rfl) ?_
        refine pv_bipush (pc := 91) (v := 16) (by decide) (fm_dec dtX10_addToRoom 53 rfl) ?_
        refine pv_ishl (pc := 93) (fm_dec dtX10_addToRoom 54 rfl) ?_
        refine pv_iadd (pc := 94) (fm_dec dtX10_addToRoom 55 rfl) ?_
        refine pv_iconst (pc := 95) (v := 2) (by decide) (fm_dec dtX10_addToRoom 56 rfl) ?_
        refine pv_iload (pc := 96) (i := 4) rfl (fm_dec dtX10_addToRoom 57 rfl) ?_
        refine pv_imul (pc := 98) (fm_dec dtX10_addToRoom 58 rfl) ?_
        refine pv_isub (pc := 99) (fm_dec dtX10_addToRoom 59 rfl) ?_
        refine pv_mm (pc := 100) pmm_X10_357 (by decide) (Nat.le_of_ble_eq_true rfl) (fm_dec dtX10_addToRoom 60 rfl) ?_
        refine pv_istore (pc := 103) (i := 6) (by decide) rfl (fm_dec dtX10_addToRoom 61 rfl) ?_
        dsimp only [List.set_cons_zero, List.set_cons_succ]
        refine pv_aloadn (pc := 105) (n := 0) 0 rfl rfl (fm_dec dtX10_addToRoom 62 rfl) ?_
        refine pv_getR (k := 0) (j := 12) (ci := 10) (pc := 106) 45 rfl (by decide) pfl_X10_87 (by decide) rfl (by decide) (fm_dec dtX10_addToRoom 63 rfl) ?_
        refine pv_iload (pc := 109) (i := 5) rfl (fm_dec dtX10_addToRoom 64 rfl) ?_
        refine pv_iload (pc := 111) (i := 6) rfl (fm_dec dtX10_addToRoom 65 rfl) ?_
        refine pv_iast (k := 45) (n := 201) (pc := 113) (by decide) rfl rfl (ar_in ha (by omega)) (fm_dec dtX10_addToRoom 66 rfl) ?_
        refine pv_iincc (pc := 114) 5 (-1) (by decide) rfl (by decide) rfl (fm_dec dtX10_addToRoom 67 rfl) ?_
        dsimp only [List.set_cons_zero, List.set_cons_succ]
        refine pv_goto (pc := 117) 27 (by decide) (fm_dec dtX10_addToRoom 68 rfl) ?_
        exact ih _ _ _ (by omega) (ar_d ha (by omega)) (ar_wr ha (by omega) h)
set_option maxRecDepth 20000 in
theorem c_addToRoom {M : fmM} {Q : fmR → fmM → Prop} {i r : Int32} (hi : 0 ≤ i.toInt ∧ i.toInt ≤ 7) (hr : 0 ≤ r.toInt ∧ r.toInt ≤ 200) (hI : scInv Tx invX M) (hq : ∀ M1 : fmM, scInv Tx invX M1 ∧ scFr [(45, 0, 201)] M M1 → Q (.inl none) M1) : pvGood Tx 1 qX10_addToRoom [.ref 0, .int i, .int r] M Q := by
  refine pvGood_of (Nat.le_of_ble_eq_true rfl) ?_
  show pvEv Tx 1 qX10_addToRoom 0 [some (.ref 0), some (.int i), some (.int r), none, none, none, none] [] M Q
  refine pv_aloadn (pc := 0) (n := 0) 0 rfl rfl (fm_dec dtX10_addToRoom 0 rfl) ?_
  refine pv_getR (k := 0) (j := 1) (ci := 10) (pc := 1) 3 rfl (by decide) pfl_X10_19 (by decide) rfl (by decide) (fm_dec dtX10_addToRoom 1 rfl) ?_
  refine pv_getR (k := 3) (j := 2) (ci := 8) (pc := 4) 6 rfl (by decide) pfl_X10_207 (by decide) rfl (by decide) (fm_dec dtX10_addToRoom 2 rfl) ?_
  refine pv_iloadn (pc := 7) (n := 1) 1 rfl rfl (fm_dec dtX10_addToRoom 3 rfl) ?_
  refine pv_iald (k := 6) (n := 8) (pc := 8) (by decide) rfl rfl (vp_in_iff.mpr ⟨by omega, by omega⟩) (fm_dec dtX10_addToRoom 4 rfl) ?_
  refine pv_istoren (pc := 9) (n := 3) 3 rfl (by decide) rfl (fm_dec dtX10_addToRoom 5 rfl) ?_
  dsimp only [List.set_cons_zero, List.set_cons_succ]
  refine pv_iconst (pc := 10) (v := 1) (by decide) (fm_dec dtX10_addToRoom 6 rfl) ?_
  refine pv_iloadn (pc := 11) (n := 1) 1 rfl rfl (fm_dec dtX10_addToRoom 7 rfl) ?_
  refine pv_iS1 (d' := 0) (pc := 12) pcs_X10_328 (Nat.le_of_ble_eq_true rfl) (by decide) (fm_dec dtX10_addToRoom 8 rfl) ?_
  refine c_roomShift (fun x12 => ?_)
  refine pv_then1 ?_
  refine pv_ishl (pc := 15) (fm_dec dtX10_addToRoom 9 rfl) ?_
  refine pv_istore (pc := 16) (i := 4) (by decide) rfl (fm_dec dtX10_addToRoom 10 rfl) ?_
  dsimp only [List.set_cons_zero, List.set_cons_succ]
  refine pv_iloadn (pc := 18) (n := 2) 2 rfl rfl (fm_dec dtX10_addToRoom 11 rfl) ?_
  refine pv_sipush (pc := 19) (v := 200) (by decide) (fm_dec dtX10_addToRoom 12 rfl) ?_
  refine pv_mm (pc := 22) pmm_X10_352 (by decide) (Nat.le_of_ble_eq_true rfl) (fm_dec dtX10_addToRoom 13 rfl) ?_
  refine pv_istore (pc := 25) (i := 5) (by decide) rfl (fm_dec dtX10_addToRoom 14 rfl) ?_
  dsimp only [List.set_cons_zero, List.set_cons_succ]
  have hw : 0 ≤ (M.1 6 i.toNatClampNeg).toInt ∧ (M.1 6 i.toNatClampNeg).toInt ≤ 99 := hI.1 6 i.toNatClampNeg (show i.toInt.toNat < 8 by omega)
  have e9 : pvMx false r 200 = r := (by have h9 : (200 : Int32).toInt = 200 := (by decide); show (if r.toInt ≤ (200 : Int32).toInt then r else 200) = r; rw [if_pos (by omega)])
  rw [e9]
  exact ar_loop hw hq (r.toInt.toNat + 1) M r _ (by omega) (by omega) ⟨hI, scFr.rfl⟩
theorem hh_hand_addToRoom : scH Tx invX cc_hand_addToRoom := by
  intro M σ as hE hS hF hI
  obtain ⟨k, st0, hk, e0, q0⟩ := scSk_r hS
  obtain ⟨i, st1, e1, hi, q1⟩ := scSk_i q0
  obtain ⟨r, st2, e2, hr, q2⟩ := scSk_i q1
  have e3 := scSk_0 q2
  have ek : k = 0 := by simpa using hk
  subst e3
  subst e2
  subst e1
  subst ek
  subst e0
  have hi9 := sc_evX hE (i := 0) rfl hi
  have hr9 := sc_evX hE (i := 1) rfl hr
  exact c_addToRoom hi9 hr9 hI (fun M1 h => ⟨⟨_, List.mem_cons_self, rfl, fun q hq => (by cases hq), fun q hq => (by cases hq)⟩, h.1, h.2⟩)
