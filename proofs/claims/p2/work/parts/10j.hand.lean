abbrev cc_hand_termOf : scC := (qX10_termOf, 0, [((-2147483648), 2147483647)], [.inr (.inl ((-9223372036854775808), 9223372036854775807)), .inr (.inl ((-9223372036854775808), 9223372036854775807)), .inl (some 0, 0)], [], [(2, ((-9223372036854775808), 9223372036854775807), [], [], [])], [])
abbrev cc_hand_addToRoom : scC := (qX10_addToRoom, 1, [(0, 7), (0, 200)], [.inr (.inr (.inl [0])), .inl (some 0, 0), .inl (some 1, 0)], [], [(0, (0, 0), [], [], [])], [(45, 0, 201)])
set_option maxRecDepth 20000 in
theorem tm_loop {Q : fmR → fmM → Prop} {M : fmM} (a b : Int64) (p : Int32) (hq : ∀ r : Int64, Q (.inl (some (.long r))) M) : ∀ (n i : Nat) (one oth : Int64) (v10 v11 : Option Value), i + n = 200 → pvEv Tx 0 qX10_termOf 9 [some (.long a), none, some (.long b), none, some (.int p), some (.long one), none, some (.long oth), none, some (.int (nI i)), v10, v11] [] M Q := by
  intro n
  induction n with
  | zero =>
    intro i one oth v10 v11 hi
    have e : i = 200 := by omega
    subst e
    refine pv_iload (pc := 9) (i := 9) rfl (fm_dec dtX10_termOf 6 rfl) ?_
    refine pv_sipush (pc := 11) (v := 200) (by decide) (fm_dec dtX10_termOf 7 rfl) ?_
    refine pv_icmp_ge (pc := 14) 45 (by decide) (fm_dec dtX10_termOf 8 rfl) (fun _ => ?_) (fun hc14 => by exfalso; exact hc14 (by decide))
    refine pv_lload (pc := 45) (i := 7) rfl (fm_dec dtX10_termOf 23 rfl) ?_
    refine pv_lconst (pc := 47) (v := 0) (by decide) (fm_dec dtX10_termOf 24 rfl) ?_
    refine pv_lcmp (pc := 48) (fm_dec dtX10_termOf 25 rfl) ?_
    refine pv_if_le (pc := 49) 57 (by decide) (fm_dec dtX10_termOf 26 rfl) (fun hc49 => ?_) (fun hc49 => ?_)
    · refine pv_lconst (pc := 57) (v := 1) (by decide) (fm_dec dtX10_termOf 29 rfl) ?_
      refine pv_lstore (pc := 58) (i := 9) (by decide) rfl (fm_dec dtX10_termOf 30 rfl) ?_
      dsimp only [List.set_cons_zero, List.set_cons_succ]
      refine pv_iload (pc := 60) (i := 4) rfl (fm_dec dtX10_termOf 31 rfl) ?_
      refine pv_if_ne (pc := 62) 69 (by decide) (fm_dec dtX10_termOf 32 rfl) (fun hc62 => ?_) (fun hc62 => ?_)
      · refine pv_lloadn (pc := 69) (n := 2) 2 rfl rfl (fm_dec dtX10_termOf 35 rfl) ?_
        refine pv_lload (pc := 70) (i := 9) rfl (fm_dec dtX10_termOf 36 rfl) ?_
        refine pv_ldiv (pc := 72) (by first | exact (fun e => hc49 (by subst e; decide)) | decide) (fm_dec dtX10_termOf 37 rfl) ?_
        exact pv_lreturn (pc := 73) rfl (fm_dec dtX10_termOf 38 rfl) (hq _)
      · refine pv_lloadn (pc := 65) (n := 0) 0 rfl rfl (fm_dec dtX10_termOf 33 rfl) ?_
        refine pv_goto (pc := 66) 70 (by decide) (fm_dec dtX10_termOf 34 rfl) ?_
        refine pv_lload (pc := 70) (i := 9) rfl (fm_dec dtX10_termOf 36 rfl) ?_
        refine pv_ldiv (pc := 72) (by first | exact (fun e => hc49 (by subst e; decide)) | decide) (fm_dec dtX10_termOf 37 rfl) ?_
        exact pv_lreturn (pc := 73) rfl (fm_dec dtX10_termOf 38 rfl) (hq _)
    · refine pv_lload (pc := 52) (i := 7) rfl (fm_dec dtX10_termOf 27 rfl) ?_
      refine pv_goto (pc := 54) 58 (by decide) (fm_dec dtX10_termOf 28 rfl) ?_
      refine pv_lstore (pc := 58) (i := 9) (by decide) rfl (fm_dec dtX10_termOf 30 rfl) ?_
      dsimp only [List.set_cons_zero, List.set_cons_succ]
      refine pv_iload (pc := 60) (i := 4) rfl (fm_dec dtX10_termOf 31 rfl) ?_
      refine pv_if_ne (pc := 62) 69 (by decide) (fm_dec dtX10_termOf 32 rfl) (fun hc62 => ?_) (fun hc62 => ?_)
      · refine pv_lloadn (pc := 69) (n := 2) 2 rfl rfl (fm_dec dtX10_termOf 35 rfl) ?_
        refine pv_lload (pc := 70) (i := 9) rfl (fm_dec dtX10_termOf 36 rfl) ?_
        refine pv_ldiv (pc := 72) (by first | exact (fun e => hc49 (by subst e; decide)) | decide) (fm_dec dtX10_termOf 37 rfl) ?_
        exact pv_lreturn (pc := 73) rfl (fm_dec dtX10_termOf 38 rfl) (hq _)
      · refine pv_lloadn (pc := 65) (n := 0) 0 rfl rfl (fm_dec dtX10_termOf 33 rfl) ?_
        refine pv_goto (pc := 66) 70 (by decide) (fm_dec dtX10_termOf 34 rfl) ?_
        refine pv_lload (pc := 70) (i := 9) rfl (fm_dec dtX10_termOf 36 rfl) ?_
        refine pv_ldiv (pc := 72) (by first | exact (fun e => hc49 (by subst e; decide)) | decide) (fm_dec dtX10_termOf 37 rfl) ?_
        exact pv_lreturn (pc := 73) rfl (fm_dec dtX10_termOf 38 rfl) (hq _)
  | succ n ih =>
    intro i one oth v10 v11 hi
    refine pv_iload (pc := 9) (i := 9) rfl (fm_dec dtX10_termOf 6 rfl) ?_
    refine pv_sipush (pc := 11) (v := 200) (by decide) (fm_dec dtX10_termOf 7 rfl) ?_
    refine pv_icmp_ge (pc := 14) 45 (by decide) (fm_dec dtX10_termOf 8 rfl) (fun hc14 => ?_) (fun hc14 => ?_)
    · refine pv_lload (pc := 45) (i := 7) rfl (fm_dec dtX10_termOf 23 rfl) ?_
      refine pv_lconst (pc := 47) (v := 0) (by decide) (fm_dec dtX10_termOf 24 rfl) ?_
      refine pv_lcmp (pc := 48) (fm_dec dtX10_termOf 25 rfl) ?_
      refine pv_if_le (pc := 49) 57 (by decide) (fm_dec dtX10_termOf 26 rfl) (fun hc49 => ?_) (fun hc49 => ?_)
      · refine pv_lconst (pc := 57) (v := 1) (by decide) (fm_dec dtX10_termOf 29 rfl) ?_
        refine pv_lstore (pc := 58) (i := 9) (by decide) rfl (fm_dec dtX10_termOf 30 rfl) ?_
        dsimp only [List.set_cons_zero, List.set_cons_succ]
        refine pv_iload (pc := 60) (i := 4) rfl (fm_dec dtX10_termOf 31 rfl) ?_
        refine pv_if_ne (pc := 62) 69 (by decide) (fm_dec dtX10_termOf 32 rfl) (fun hc62 => ?_) (fun hc62 => ?_)
        · refine pv_lloadn (pc := 69) (n := 2) 2 rfl rfl (fm_dec dtX10_termOf 35 rfl) ?_
          refine pv_lload (pc := 70) (i := 9) rfl (fm_dec dtX10_termOf 36 rfl) ?_
          refine pv_ldiv (pc := 72) (by first | exact (fun e => hc49 (by subst e; decide)) | decide) (fm_dec dtX10_termOf 37 rfl) ?_
          exact pv_lreturn (pc := 73) rfl (fm_dec dtX10_termOf 38 rfl) (hq _)
        · refine pv_lloadn (pc := 65) (n := 0) 0 rfl rfl (fm_dec dtX10_termOf 33 rfl) ?_
          refine pv_goto (pc := 66) 70 (by decide) (fm_dec dtX10_termOf 34 rfl) ?_
          refine pv_lload (pc := 70) (i := 9) rfl (fm_dec dtX10_termOf 36 rfl) ?_
          refine pv_ldiv (pc := 72) (by first | exact (fun e => hc49 (by subst e; decide)) | decide) (fm_dec dtX10_termOf 37 rfl) ?_
          exact pv_lreturn (pc := 73) rfl (fm_dec dtX10_termOf 38 rfl) (hq _)
      · refine pv_lload (pc := 52) (i := 7) rfl (fm_dec dtX10_termOf 27 rfl) ?_
        refine pv_goto (pc := 54) 58 (by decide) (fm_dec dtX10_termOf 28 rfl) ?_
        refine pv_lstore (pc := 58) (i := 9) (by decide) rfl (fm_dec dtX10_termOf 30 rfl) ?_
        dsimp only [List.set_cons_zero, List.set_cons_succ]
        refine pv_iload (pc := 60) (i := 4) rfl (fm_dec dtX10_termOf 31 rfl) ?_
        refine pv_if_ne (pc := 62) 69 (by decide) (fm_dec dtX10_termOf 32 rfl) (fun hc62 => ?_) (fun hc62 => ?_)
        · refine pv_lloadn (pc := 69) (n := 2) 2 rfl rfl (fm_dec dtX10_termOf 35 rfl) ?_
          refine pv_lload (pc := 70) (i := 9) rfl (fm_dec dtX10_termOf 36 rfl) ?_
          refine pv_ldiv (pc := 72) (by first | exact (fun e => hc49 (by subst e; decide)) | decide) (fm_dec dtX10_termOf 37 rfl) ?_
          exact pv_lreturn (pc := 73) rfl (fm_dec dtX10_termOf 38 rfl) (hq _)
        · refine pv_lloadn (pc := 65) (n := 0) 0 rfl rfl (fm_dec dtX10_termOf 33 rfl) ?_
          refine pv_goto (pc := 66) 70 (by decide) (fm_dec dtX10_termOf 34 rfl) ?_
          refine pv_lload (pc := 70) (i := 9) rfl (fm_dec dtX10_termOf 36 rfl) ?_
          refine pv_ldiv (pc := 72) (by first | exact (fun e => hc49 (by subst e; decide)) | decide) (fm_dec dtX10_termOf 37 rfl) ?_
          exact pv_lreturn (pc := 73) rfl (fm_dec dtX10_termOf 38 rfl) (hq _)
    · refine pv_lload (pc := 17) (i := 5) rfl (fm_dec dtX10_termOf 9 rfl) ?_
      refine pv_lconst (pc := 19) (v := 0) (by decide) (fm_dec dtX10_termOf 10 rfl) ?_
      refine pv_lcmp (pc := 20) (fm_dec dtX10_termOf 11 rfl) ?_
      refine pv_if_eq (pc := 21) 45 (by decide) (fm_dec dtX10_termOf 12 rfl) (fun hc21 => ?_) (fun hc21 => ?_)
      · refine pv_lload (pc := 45) (i := 7) rfl (fm_dec dtX10_termOf 23 rfl) ?_
        refine pv_lconst (pc := 47) (v := 0) (by decide) (fm_dec dtX10_termOf 24 rfl) ?_
        refine pv_lcmp (pc := 48) (fm_dec dtX10_termOf 25 rfl) ?_
        refine pv_if_le (pc := 49) 57 (by decide) (fm_dec dtX10_termOf 26 rfl) (fun hc49 => ?_) (fun hc49 => ?_)
        · refine pv_lconst (pc := 57) (v := 1) (by decide) (fm_dec dtX10_termOf 29 rfl) ?_
          refine pv_lstore (pc := 58) (i := 9) (by decide) rfl (fm_dec dtX10_termOf 30 rfl) ?_
          dsimp only [List.set_cons_zero, List.set_cons_succ]
          refine pv_iload (pc := 60) (i := 4) rfl (fm_dec dtX10_termOf 31 rfl) ?_
          refine pv_if_ne (pc := 62) 69 (by decide) (fm_dec dtX10_termOf 32 rfl) (fun hc62 => ?_) (fun hc62 => ?_)
          · refine pv_lloadn (pc := 69) (n := 2) 2 rfl rfl (fm_dec dtX10_termOf 35 rfl) ?_
            refine pv_lload (pc := 70) (i := 9) rfl (fm_dec dtX10_termOf 36 rfl) ?_
            refine pv_ldiv (pc := 72) (by first | exact (fun e => hc49 (by subst e; decide)) | decide) (fm_dec dtX10_termOf 37 rfl) ?_
            exact pv_lreturn (pc := 73) rfl (fm_dec dtX10_termOf 38 rfl) (hq _)
          · refine pv_lloadn (pc := 65) (n := 0) 0 rfl rfl (fm_dec dtX10_termOf 33 rfl) ?_
            refine pv_goto (pc := 66) 70 (by decide) (fm_dec dtX10_termOf 34 rfl) ?_
            refine pv_lload (pc := 70) (i := 9) rfl (fm_dec dtX10_termOf 36 rfl) ?_
            refine pv_ldiv (pc := 72) (by first | exact (fun e => hc49 (by subst e; decide)) | decide) (fm_dec dtX10_termOf 37 rfl) ?_
            exact pv_lreturn (pc := 73) rfl (fm_dec dtX10_termOf 38 rfl) (hq _)
        · refine pv_lload (pc := 52) (i := 7) rfl (fm_dec dtX10_termOf 27 rfl) ?_
          refine pv_goto (pc := 54) 58 (by decide) (fm_dec dtX10_termOf 28 rfl) ?_
          refine pv_lstore (pc := 58) (i := 9) (by decide) rfl (fm_dec dtX10_termOf 30 rfl) ?_
          dsimp only [List.set_cons_zero, List.set_cons_succ]
          refine pv_iload (pc := 60) (i := 4) rfl (fm_dec dtX10_termOf 31 rfl) ?_
          refine pv_if_ne (pc := 62) 69 (by decide) (fm_dec dtX10_termOf 32 rfl) (fun hc62 => ?_) (fun hc62 => ?_)
          · refine pv_lloadn (pc := 69) (n := 2) 2 rfl rfl (fm_dec dtX10_termOf 35 rfl) ?_
            refine pv_lload (pc := 70) (i := 9) rfl (fm_dec dtX10_termOf 36 rfl) ?_
            refine pv_ldiv (pc := 72) (by first | exact (fun e => hc49 (by subst e; decide)) | decide) (fm_dec dtX10_termOf 37 rfl) ?_
            exact pv_lreturn (pc := 73) rfl (fm_dec dtX10_termOf 38 rfl) (hq _)
          · refine pv_lloadn (pc := 65) (n := 0) 0 rfl rfl (fm_dec dtX10_termOf 33 rfl) ?_
            refine pv_goto (pc := 66) 70 (by decide) (fm_dec dtX10_termOf 34 rfl) ?_
            refine pv_lload (pc := 70) (i := 9) rfl (fm_dec dtX10_termOf 36 rfl) ?_
            refine pv_ldiv (pc := 72) (by first | exact (fun e => hc49 (by subst e; decide)) | decide) (fm_dec dtX10_termOf 37 rfl) ?_
            exact pv_lreturn (pc := 73) rfl (fm_dec dtX10_termOf 38 rfl) (hq _)
      · refine pv_lload (pc := 24) (i := 7) rfl (fm_dec dtX10_termOf 13 rfl) ?_
        refine pv_lload (pc := 26) (i := 5) rfl (fm_dec dtX10_termOf 14 rfl) ?_
        refine pv_lrem (pc := 28) (fun e => hc21 (by subst e; rfl)) (fm_dec dtX10_termOf 15 rfl) ?_
        refine pv_lstore (pc := 29) (i := 10) (by decide) rfl (fm_dec dtX10_termOf 16 rfl) ?_
        dsimp only [List.set_cons_zero, List.set_cons_succ]
        refine pv_lload (pc := 31) (i := 5) rfl (fm_dec dtX10_termOf 17 rfl) ?_
        refine pv_lstore (pc := 33) (i := 7) (by decide) rfl (fm_dec dtX10_termOf 18 rfl) ?_
        dsimp only [List.set_cons_zero, List.set_cons_succ]
        refine pv_lload (pc := 35) (i := 10) rfl (fm_dec dtX10_termOf 19 rfl) ?_
        refine pv_lstore (pc := 37) (i := 5) (by decide) rfl (fm_dec dtX10_termOf 20 rfl) ?_
        dsimp only [List.set_cons_zero, List.set_cons_succ]
        refine pv_iincc (pc := 39) 9 1 (by decide) rfl (by decide) rfl (fm_dec dtX10_termOf 21 rfl) ?_
        dsimp only [List.set_cons_zero, List.set_cons_succ]
        refine pv_goto (pc := 42) 9 (by decide) (fm_dec dtX10_termOf 22 rfl) ?_
        rw [nI_succ1]
        exact ih (i + 1) _ _ _ _ (by omega)
set_option maxRecDepth 20000 in
theorem c_termOf {M : fmM} {Q : fmR → fmM → Prop} (a b : Int64) (p : Int32) (hq : ∀ r : Int64, Q (.inl (some (.long r))) M) : pvGood Tx 0 qX10_termOf [.long a, .long b, .int p] M Q := by
  refine pvGood_of (Nat.le_of_ble_eq_true rfl) ?_
  show pvEv Tx 0 qX10_termOf 0 [some (.long a), none, some (.long b), none, some (.int p), none, none, none, none, none, none, none] [] M Q
  refine pv_lloadn (pc := 0) (n := 0) 0 rfl rfl (fm_dec dtX10_termOf 0 rfl) ?_
  refine pv_lstore (pc := 1) (i := 5) (by decide) rfl (fm_dec dtX10_termOf 1 rfl) ?_
  dsimp only [List.set_cons_zero, List.set_cons_succ]
  refine pv_lloadn (pc := 3) (n := 2) 2 rfl rfl (fm_dec dtX10_termOf 2 rfl) ?_
  refine pv_lstore (pc := 4) (i := 7) (by decide) rfl (fm_dec dtX10_termOf 3 rfl) ?_
  dsimp only [List.set_cons_zero, List.set_cons_succ]
  refine pv_iconst (pc := 6) (v := 0) (by decide) (fm_dec dtX10_termOf 4 rfl) ?_
  refine pv_istore (pc := 7) (i := 9) (by decide) rfl (fm_dec dtX10_termOf 5 rfl) ?_
  dsimp only [List.set_cons_zero, List.set_cons_succ]
  exact tm_loop a b p hq 200 0 _ _ _ _ (by omega)
theorem hh_hand_termOf : scH Tx invX cc_hand_termOf := by
  intro M σ as hE hS hF hI
  obtain ⟨a, st1, e1, ha, q1⟩ := scSk_j hS
  obtain ⟨b, st2, e2, hb, q2⟩ := scSk_j q1
  obtain ⟨p, st3, e3, hp, q3⟩ := scSk_i q2
  have e5 := scSk_0 q3
  subst e5
  subst e3
  subst e2
  subst e1
  exact c_termOf a b p (fun r => ⟨⟨_, List.mem_cons_self, ⟨r, rfl, (scq_l r).1, (scq_l r).2⟩, fun q hq => (by cases hq), fun q hq => (by cases hq)⟩, hI, scFr.rfl⟩)
theorem hh_hand_addToRoom : scH Tx invX cc_hand_addToRoom := sorry
