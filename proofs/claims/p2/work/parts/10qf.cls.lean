abbrev cc_X6_pieces_0 : scC := (qX6_pieces, 0, [(0, 8)], [.inr (.inr (.inl [47])), .inl (some 0, 0)], [], [(1, ((-2147483648), 2147483647), [], [], [])], [])
set_option maxRecDepth 20000 in
abbrev xx_X6_pieces_0 : scX := (Tx, invX, lnX6, [], cc_X6_pieces_0)
set_option maxRecDepth 20000 in
theorem hh_X6_pieces_0 : scH Tx invX cc_X6_pieces_0 := scCheck_ok (X := xx_X6_pieces_0) (nodes := [(4, ([(0, 8), ((-2147483648), 2147483647), (0, 8), ((-2147483648), 2147483647)], [some (.inr (.inr (.inl [47]))), some (.inl (some 0, 0)), some (.inl (some 1, 0)), some (.inl (some 2, 0))], [], [((48, 0), (some 3, 0))]), ([0, 0, (-2)], 16))]) (fuel := 4000) ⟨lkX6.1, lkX6.2, fa_nil, na_copy⟩ (by decide +kernel) dtX6_pieces (by decide +kernel)
abbrev cc_X10_told_0 : scC := (qX10_told, 1, [((-2147483648), 2147483647)], [.inr (.inr (.inl [0])), .inl (some 0, 0)], [], [(1, ((-2147483648), 2147483647), [], [], []), (4, (0, 0), [], [], [])], [(0, 16, 1)])
set_option maxRecDepth 20000 in
abbrev xx_X10_told_0 : scX := (Tx, invX, lnX10, [(169, 0, 10, cc_nw1), (182, 1, 0, cc_J6_bitCount_0f7a4_0), (188, 0, 6, cc_X6_pieces_0)], cc_X10_told_0)
set_option maxRecDepth 20000 in
theorem hh_X10_told_0 : scH Tx invX cc_X10_told_0 := scCheck_ok (X := xx_X10_told_0) (nodes := []) (fuel := 4000) ⟨lkX10.1, lkX10.2, fa_cons (⟨⟨3, cv_X10_169, rfl⟩, hh_nw1⟩) (fa_cons (⟨cs_X10_182, hh_J6_bitCount_0f7a4_0⟩) (fa_cons (⟨⟨1, cv_X10_188, rfl⟩, hh_X6_pieces_0⟩) (fa_nil))), na_copy⟩ (by decide +kernel) dtX10_told (by decide +kernel)
abbrev cc_X6_isAlive_0 : scC := (qX6_isAlive, 0, [((-2147483648), 2147483647)], [.inr (.inr (.inl [47])), .inl (some 0, 0)], [], [(1, (0, 1), [], [], [])], [])
set_option maxRecDepth 20000 in
abbrev xx_X6_isAlive_0 : scX := (Tx, invX, lnX6, [], cc_X6_isAlive_0)
set_option maxRecDepth 20000 in
theorem hh_X6_isAlive_0 : scH Tx invX cc_X6_isAlive_0 := scCheck_ok (X := xx_X6_isAlive_0) (nodes := []) (fuel := 4000) ⟨lkX6.1, lkX6.2, fa_nil, na_copy⟩ (by decide +kernel) dtX6_isAlive (by decide +kernel)
abbrev cc_X8_renewHours_0 : scC := (qX8_renewHours, 1, [(0, 7)], [.inr (.inr (.inl [3])), .inl (some 0, 0)], [], [(1, (1, 9), [], [], [])], [])
set_option maxRecDepth 20000 in
abbrev xx_X8_renewHours_0 : scX := (Tx, invX, lnX8, [], cc_X8_renewHours_0)
set_option maxRecDepth 20000 in
theorem hh_X8_renewHours_0 : scH Tx invX cc_X8_renewHours_0 := scCheck_ok (X := xx_X8_renewHours_0) (nodes := []) (fuel := 4000) ⟨lkX8.1, lkX8.2, fa_nil, na_copy⟩ (by decide +kernel) dtX8_renewHours (by decide +kernel)
abbrev cc_X0_yearsWhen_0 : scC := (qX0_yearsWhen, 0, [(0, 7), (0, 7)], [.inr (.inr (.inl [32])), .inr (.inr (.inl [47])), .inl (some 0, 0), .inl (some 1, 0)], [], [(1, (0, 317), [], [], [])], [])
set_option maxRecDepth 20000 in
abbrev xx_X0_yearsWhen_0 : scX := (Tx, invX, lnX0, [], cc_X0_yearsWhen_0)
set_option maxRecDepth 20000 in
theorem hh_X0_yearsWhen_0 : scH Tx invX cc_X0_yearsWhen_0 := scCheck_ok (X := xx_X0_yearsWhen_0) (nodes := []) (fuel := 4000) ⟨lkX0.1, lkX0.2, fa_nil, na_copy⟩ (by decide +kernel) dtX0_yearsWhen (by decide +kernel)
abbrev cc_X10_life_0 : scC := (qX10_life, 2, [((-2147483648), 2147483647), ((-2147483648), 2147483647)], [.inr (.inr (.inl [0])), .inl (some 0, 0), .inl (some 1, 0)], [], [(1, ((-2147483648), 2147483647), [], [], []), (4, (0, 0), [], [], []), (5, (0, 0), [], [], [])], [(0, 15, 2)])
set_option maxRecDepth 20000 in
abbrev xx_X10_life_0 : scX := (Tx, invX, lnX10, [(169, 0, 10, cc_nw2), (197, 0, 10, cc_hand_needLife), (200, 0, 0, cc_X0_yearsWhen_0), (212, 0, 8, cc_X8_renewHours_0), (215, 0, 6, cc_X6_isAlive_0)], cc_X10_life_0)
set_option maxRecDepth 20000 in
theorem hh_X10_life_0 : scH Tx invX cc_X10_life_0 := scCheck_ok (X := xx_X10_life_0) (nodes := []) (fuel := 4000) ⟨lkX10.1, lkX10.2, fa_cons (⟨⟨3, cv_X10_169, rfl⟩, hh_nw2⟩) (fa_cons (⟨⟨1, cv_X10_197, rfl⟩, hh_hand_needLife⟩) (fa_cons (⟨⟨3, cv_X10_200, rfl⟩, hh_X0_yearsWhen_0⟩) (fa_cons (⟨⟨1, cv_X10_212, rfl⟩, hh_X8_renewHours_0⟩) (fa_cons (⟨⟨1, cv_X10_215, rfl⟩, hh_X6_isAlive_0⟩) (fa_nil))))), na_copy⟩ (by decide +kernel) dtX10_life (by decide +kernel)
abbrev cc_X8_factBits_0 : scC := (qX8_factBits, 0, [((-2147483648), 2147483647), ((-2147483648), 2147483647)], [.inr (.inr (.inl [3])), .inl (some 0, 0), .inl (some 1, 0)], [], [(1, ((-2147483648), 2147483647), [], [], [])], [])
set_option maxRecDepth 20000 in
abbrev xx_X8_factBits_0 : scX := (Tx, invX, lnX8, [], cc_X8_factBits_0)
set_option maxRecDepth 20000 in
theorem hh_X8_factBits_0 : scH Tx invX cc_X8_factBits_0 := scCheck_ok (X := xx_X8_factBits_0) (nodes := [(5, ([((-2147483648), 2147483647), ((-2147483648), 2147483647), ((-2147483648), 2147483647), (0, 24), (0, 5), (0, 60), (0, 7), (0, 24)], [some (.inr (.inr (.inl [3]))), some (.inl (some 0, 0)), some (.inl (some 1, 0)), some (.inl (some 2, 0)), some (.inl (some 3, 0))], [], [((11, 0), (some 4, 0)), ((12, 0), (some 5, 0)), ((10, 0), (some 6, 0)), ((3, 10), (some 7, 0))]), ([0, 0, 0, (-2)], 48))]) (fuel := 4000) ⟨lkX8.1, lkX8.2, fa_nil, na_copy⟩ (by decide +kernel) dtX8_factBits (by decide +kernel)
abbrev cc_X10_facts_0 : scC := (qX10_facts, 1, [((-2147483648), 2147483647)], [.inr (.inr (.inl [0])), .inl (some 0, 0)], [], [(1, ((-2147483648), 2147483647), [], [], []), (5, (0, 0), [], [], [])], [(0, 15, 1)])
set_option maxRecDepth 20000 in
abbrev xx_X10_facts_0 : scX := (Tx, invX, lnX10, [(197, 0, 10, cc_hand_needLife), (225, 0, 8, cc_X8_factBits_0)], cc_X10_facts_0)
set_option maxRecDepth 20000 in
theorem hh_X10_facts_0 : scH Tx invX cc_X10_facts_0 := scCheck_ok (X := xx_X10_facts_0) (nodes := []) (fuel := 4000) ⟨lkX10.1, lkX10.2, fa_cons (⟨⟨1, cv_X10_197, rfl⟩, hh_hand_needLife⟩) (fa_cons (⟨⟨2, cv_X10_225, rfl⟩, hh_X8_factBits_0⟩) (fa_nil)), na_copy⟩ (by decide +kernel) dtX10_facts (by decide +kernel)
abbrev cc_X8_changesBetween_0 : scC := (qX8_changesBetween, 0, [((-2147483648), 2147483647), ((-2147483648), 2147483647), ((-2147483648), 2147483647)], [.inr (.inr (.inl [3])), .inl (some 0, 0), .inl (some 1, 0), .inl (some 2, 0)], [], [(1, ((-2147483648), 2147483647), [], [], [])], [])
set_option maxRecDepth 20000 in
abbrev xx_X8_changesBetween_0 : scX := (Tx, invX, lnX8, [], cc_X8_changesBetween_0)
set_option maxRecDepth 20000 in
theorem hh_X8_changesBetween_0 : scH Tx invX cc_X8_changesBetween_0 := scCheck_ok (X := xx_X8_changesBetween_0) (nodes := [(6, ([((-2147483648), 2147483647), ((-2147483648), 2147483647), ((-2147483648), 2147483647), ((-2147483648), 2147483647), (0, 24), (0, 60), (0, 7), (0, 24)], [some (.inr (.inr (.inl [3]))), some (.inl (some 0, 0)), some (.inl (some 1, 0)), some (.inl (some 2, 0)), some (.inl (some 3, 0)), some (.inl (some 4, 0))], [], [((12, 0), (some 5, 0)), ((10, 0), (some 6, 0)), ((3, 10), (some 7, 0))]), ([0, 0, 0, 0, (-2)], 48))]) (fuel := 4000) ⟨lkX8.1, lkX8.2, fa_nil, na_copy⟩ (by decide +kernel) dtX8_changesBetween (by decide +kernel)
abbrev cc_X0_signerDead_0 : scC := (qX0_signerDead, 1, [(0, 7)], [.inr (.inr (.inl [32])), .inr (.inr (.inl [47])), .inl (some 0, 0)], [], [(1, (0, 1), [], [], [])], [])
set_option maxRecDepth 20000 in
abbrev xx_X0_signerDead_0 : scX := (Tx, invX, lnX0, [(38, 0, 6, cc_X6_isAlive_0)], cc_X0_signerDead_0)
set_option maxRecDepth 20000 in
theorem hh_X0_signerDead_0 : scH Tx invX cc_X0_signerDead_0 := scCheck_ok (X := xx_X0_signerDead_0) (nodes := []) (fuel := 4000) ⟨lkX0.1, lkX0.2, fa_cons (⟨⟨1, cv_X0_38, rfl⟩, hh_X6_isAlive_0⟩) (fa_nil), na_copy⟩ (by decide +kernel) dtX0_signerDead (by decide +kernel)
abbrev cc_X1_joined_0 : scC := (qX1_joined, 0, [((-2147483648), 2147483647), ((-2147483648), 2147483647), ((-2147483648), 2147483647)], [.inl (some 0, 0), .inl (some 1, 0), .inl (some 2, 0)], [], [(1, ((-2147483648), 2147483647), [], [], [])], [])
set_option maxRecDepth 20000 in
abbrev xx_X1_joined_0 : scX := (Tx, invX, lnX1, [], cc_X1_joined_0)
set_option maxRecDepth 20000 in
theorem hh_X1_joined_0 : scH Tx invX cc_X1_joined_0 := scCheck_ok (X := xx_X1_joined_0) (nodes := []) (fuel := 4000) ⟨lkX1.1, lkX1.2, fa_nil, na_copy⟩ (by decide +kernel) dtX1_joined (by decide +kernel)
abbrev cc_X1_outcome_0 : scC := (qX1_outcome, 1, [((-2147483648), 2147483647), ((-2147483648), 2147483647), ((-2147483648), 2147483647), ((-2147483648), 2147483647), ((-2147483648), 2147483647)], [.inr (.inr (.inl [23])), .inl (some 0, 0), .inl (some 1, 0), .inl (some 2, 0), .inl (some 3, 0), .inl (some 4, 0)], [], [(1, (0, 64), [], [], [])], [(26, 0, 24)])
set_option maxRecDepth 20000 in
abbrev xx_X1_outcome_0 : scX := (Tx, invX, lnX1, [(85, 1, 0, cc_X1_joined_0)], cc_X1_outcome_0)
set_option maxRecDepth 20000 in
theorem hh_X1_outcome_0 : scH Tx invX cc_X1_outcome_0 := scCheck_ok (X := xx_X1_outcome_0) (nodes := [(6, ([((-2147483648), 2147483647), ((-2147483648), 2147483647), ((-2147483648), 2147483647), ((-2147483648), 2147483647), ((-2147483648), 2147483647), (0, 24), (0, 150), ((-2147483648), 2147483647), ((-2147483648), 2147483647), (0, 150), ((-2147483648), 2147483647)], [some (.inr (.inr (.inl [23]))), some (.inl (some 0, 0)), some (.inl (some 1, 0)), some (.inl (some 2, 0)), some (.inl (some 3, 0)), some (.inl (some 4, 0)), some (.inl (some 5, 0)), some (.inl (some 6, 0)), none], [], [((26, 0), (some 7, 0)), ((24, 0), (some 8, 0)), ((23, 3), (some 9, 0)), ((26, 1), (some 10, 0))]), ([0, 0, 0, 0, 0, 0, (-2)], 300))]) (fuel := 4000) ⟨lkX1.1, lkX1.2, fa_cons (⟨cs_X1_85, hh_X1_joined_0⟩) (fa_nil), na_copy⟩ (by decide +kernel) dtX1_outcome (by decide +kernel)
abbrev cc_X0_wrongWhen_0 : scC := (qX0_wrongWhen, 2, [(0, 7), (0, 7), ((-2147483648), 2147483647)], [.inr (.inr (.inl [32])), .inr (.inr (.inl [47])), .inl (some 0, 0), .inl (some 1, 0), .inl (some 2, 0)], [], [(1, (0, 64), [], [], [])], [(26, 0, 24)])
set_option maxRecDepth 20000 in
abbrev xx_X0_wrongWhen_0 : scX := (Tx, invX, lnX0, [(42, 0, 8, cc_X8_changesBetween_0), (46, 0, 0, cc_X0_yearsWhen_0), (53, 0, 0, cc_X0_signerDead_0), (57, 0, 1, cc_X1_outcome_0)], cc_X0_wrongWhen_0)
set_option maxRecDepth 20000 in
theorem hh_X0_wrongWhen_0 : scH Tx invX cc_X0_wrongWhen_0 := scCheck_ok (X := xx_X0_wrongWhen_0) (nodes := []) (fuel := 4000) ⟨lkX0.1, lkX0.2, fa_cons (⟨⟨3, cv_X0_42, rfl⟩, hh_X8_changesBetween_0⟩) (fa_cons (⟨⟨3, cv_X0_46, rfl⟩, hh_X0_yearsWhen_0⟩) (fa_cons (⟨⟨2, cv_X0_53, rfl⟩, hh_X0_signerDead_0⟩) (fa_cons (⟨⟨5, cv_X0_57, rfl⟩, hh_X1_outcome_0⟩) (fa_nil)))), na_copy⟩ (by decide +kernel) dtX0_wrongWhen (by decide +kernel)
abbrev cc_X10_wrong_0 : scC := (qX10_wrong, 3, [((-2147483648), 2147483647)], [.inr (.inr (.inl [0])), .inl (some 0, 0)], [], [(1, ((-1), 64), [], [], []), (5, (0, 0), [], [], [])], [(0, 15, 1), (26, 0, 24)])
set_option maxRecDepth 20000 in
abbrev xx_X10_wrong_0 : scX := (Tx, invX, lnX10, [(197, 0, 10, cc_hand_needLife), (229, 0, 0, cc_X0_wrongWhen_0)], cc_X10_wrong_0)
set_option maxRecDepth 20000 in
theorem hh_X10_wrong_0 : scH Tx invX cc_X10_wrong_0 := scCheck_ok (X := xx_X10_wrong_0) (nodes := []) (fuel := 4000) ⟨lkX10.1, lkX10.2, fa_cons (⟨⟨1, cv_X10_197, rfl⟩, hh_hand_needLife⟩) (fa_cons (⟨⟨4, cv_X10_229, rfl⟩, hh_X0_wrongWhen_0⟩) (fa_nil)), na_copy⟩ (by decide +kernel) dtX10_wrong (by decide +kernel)
abbrev cc_X10_would_0 : scC := (qX10_would, 2, [((-2147483648), 2147483647), ((-2147483648), 2147483647), ((-2147483648), 2147483647), ((-2147483648), 2147483647), ((-2147483648), 2147483647)], [.inr (.inr (.inl [0])), .inl (some 0, 0), .inl (some 1, 0), .inl (some 2, 0), .inl (some 3, 0), .inl (some 4, 0)], [], [(1, (0, 64), [], [], []), (4, (0, 0), [], [], [])], [(0, 16, 1), (26, 0, 24)])
set_option maxRecDepth 20000 in
abbrev xx_X10_would_0 : scX := (Tx, invX, lnX10, [(169, 0, 10, cc_nw3), (169, 0, 10, cc_nw4), (169, 0, 10, cc_nw5), (169, 0, 10, cc_nw6), (233, 0, 1, cc_X1_outcome_0)], cc_X10_would_0)
set_option maxRecDepth 20000 in
theorem hh_X10_would_0 : scH Tx invX cc_X10_would_0 := scCheck_ok (X := xx_X10_would_0) (nodes := []) (fuel := 4000) ⟨lkX10.1, lkX10.2, fa_cons (⟨⟨3, cv_X10_169, rfl⟩, hh_nw3⟩) (fa_cons (⟨⟨3, cv_X10_169, rfl⟩, hh_nw4⟩) (fa_cons (⟨⟨3, cv_X10_169, rfl⟩, hh_nw5⟩) (fa_cons (⟨⟨3, cv_X10_169, rfl⟩, hh_nw6⟩) (fa_cons (⟨⟨5, cv_X10_233, rfl⟩, hh_X1_outcome_0⟩) (fa_nil))))), na_copy⟩ (by decide +kernel) dtX10_would (by decide +kernel)
abbrev cc_X10_lacking_0 : scC := (qX10_lacking, 1, [], [.inr (.inr (.inl [0]))], [], [(1, ((-2147483648), 2147483647), [], [], [])], [])
set_option maxRecDepth 20000 in
abbrev xx_X10_lacking_0 : scX := (Tx, invX, lnX10, [(215, 0, 6, cc_X6_isAlive_0)], cc_X10_lacking_0)
set_option maxRecDepth 20000 in
theorem hh_X10_lacking_0 : scH Tx invX cc_X10_lacking_0 := scCheck_ok (X := xx_X10_lacking_0) (nodes := [(4, ([((-2147483648), 2147483647), (0, 8), ((-2147483648), 2147483647), (0, 8)], [some (.inr (.inr (.inl [0]))), some (.inl (some 0, 0)), some (.inl (some 1, 0))], [], [((48, 0), (some 2, 0)), ((3, 9), (some 3, 0))]), ([0, (-2)], 16))]) (fuel := 4000) ⟨lkX10.1, lkX10.2, fa_cons (⟨⟨1, cv_X10_215, rfl⟩, hh_X6_isAlive_0⟩) (fa_nil), na_copy⟩ (by decide +kernel) dtX10_lacking (by decide +kernel)
abbrev cc_X10_signed_0 : scC := (qX10_signed, 2, [], [.inr (.inr (.inl [0]))], [], [(1, ((-2147483648), 2147483647), [], [], [])], [])
set_option maxRecDepth 20000 in
abbrev xx_X10_signed_0 : scX := (Tx, invX, lnX10, [(237, 0, 0, cc_X0_signerDead_0)], cc_X10_signed_0)
set_option maxRecDepth 20000 in
theorem hh_X10_signed_0 : scH Tx invX cc_X10_signed_0 := scCheck_ok (X := xx_X10_signed_0) (nodes := [(4, ([((-2147483648), 2147483647), (0, 8), ((-2147483648), 2147483647), (0, 8)], [some (.inr (.inr (.inl [0]))), some (.inl (some 0, 0)), some (.inl (some 1, 0))], [], [((48, 0), (some 2, 0)), ((3, 9), (some 3, 0))]), ([0, (-2)], 16))]) (fuel := 4000) ⟨lkX10.1, lkX10.2, fa_cons (⟨⟨2, cv_X10_237, rfl⟩, hh_X0_signerDead_0⟩) (fa_nil), na_copy⟩ (by decide +kernel) dtX10_signed (by decide +kernel)
abbrev cc_X10_piecesWrongBy_0 : scC := (qX10_piecesWrongBy, 3, [(0, 65)], [.inr (.inr (.inl [0])), .inl (some 0, 0)], [], [(1, ((-2147483648), 2147483647), [], [], [])], [(26, 0, 24)])
set_option maxRecDepth 20000 in
abbrev xx_X10_piecesWrongBy_0 : scX := (Tx, invX, lnX10, [(229, 0, 0, cc_X0_wrongWhen_0)], cc_X10_piecesWrongBy_0)
set_option maxRecDepth 20000 in
theorem hh_X10_piecesWrongBy_0 : scH Tx invX cc_X10_piecesWrongBy_0 := scCheck_ok (X := xx_X10_piecesWrongBy_0) (nodes := [(4, ([(0, 65), ((-2147483648), 2147483647), (0, 8), ((-2147483648), 2147483647), (0, 8)], [some (.inr (.inr (.inl [0]))), some (.inl (some 0, 0)), some (.inl (some 1, 0)), some (.inl (some 2, 0)), none], [], [((48, 0), (some 3, 0)), ((3, 9), (some 4, 0))]), ([0, 0, (-2)], 16))]) (fuel := 4000) ⟨lkX10.1, lkX10.2, fa_cons (⟨⟨4, cv_X10_229, rfl⟩, hh_X0_wrongWhen_0⟩) (fa_nil), na_copy⟩ (by decide +kernel) dtX10_piecesWrongBy (by decide +kernel)
abbrev cc_X10_stale_0 : scC := (qX10_stale, 4, [((-2147483648), 2147483647)], [.inr (.inr (.inl [0])), .inl (some 0, 0)], [], [(1, ((-2147483648), 2147483647), [], [], []), (4, (0, 0), [], [], [])], [(0, 16, 1), (26, 0, 24)])
set_option maxRecDepth 20000 in
abbrev xx_X10_stale_0 : scX := (Tx, invX, lnX10, [(169, 0, 10, cc_nw7), (241, 0, 10, cc_X10_piecesWrongBy_0)], cc_X10_stale_0)
set_option maxRecDepth 20000 in
theorem hh_X10_stale_0 : scH Tx invX cc_X10_stale_0 := scCheck_ok (X := xx_X10_stale_0) (nodes := []) (fuel := 4000) ⟨lkX10.1, lkX10.2, fa_cons (⟨⟨3, cv_X10_169, rfl⟩, hh_nw7⟩) (fa_cons (⟨⟨1, cv_X10_241, rfl⟩, hh_X10_piecesWrongBy_0⟩) (fa_nil)), na_copy⟩ (by decide +kernel) dtX10_stale (by decide +kernel)
abbrev cc_X10_oldest_0 : scC := (qX10_oldest, 0, [], [.inr (.inr (.inl [0]))], [], [(1, ((-1), 7), [], [], [])], [])
set_option maxRecDepth 20000 in
abbrev xx_X10_oldest_0 : scX := (Tx, invX, lnX10, [], cc_X10_oldest_0)
set_option maxRecDepth 20000 in
theorem hh_X10_oldest_0 : scH Tx invX cc_X10_oldest_0 := scCheck_ok (X := xx_X10_oldest_0) (nodes := [(6, ([((-1), 7), ((-2147483648), 2147483647), (0, 8), ((-2147483648), 2147483647), (0, 8)], [some (.inr (.inr (.inl [0]))), some (.inl (some 0, 0)), some (.inl (some 1, 0)), some (.inl (some 2, 0))], [], [((48, 0), (some 3, 0)), ((3, 9), (some 4, 0))]), ([0, 0, (-2)], 16))]) (fuel := 4000) ⟨lkX10.1, lkX10.2, fa_nil, na_copy⟩ (by decide +kernel) dtX10_oldest (by decide +kernel)
abbrev cc_X10_chain_0 : scC := (qX10_chain, 1, [((-2147483648), 2147483647), ((-2147483648), 2147483647)], [.inr (.inr (.inl [0])), .inl (some 0, 0), .inl (some 1, 0)], [], [(1, (0, 63), [], [], []), (4, (0, 0), [], [], []), (5, (0, 0), [], [], [])], [(0, 15, 2)])
set_option maxRecDepth 20000 in
abbrev xx_X10_chain_0 : scX := (Tx, invX, lnX10, [(169, 0, 10, cc_nw5), (182, 1, 0, cc_J6_bitCount_0f7a4_0), (197, 0, 10, cc_hand_needLife)], cc_X10_chain_0)
set_option maxRecDepth 20000 in
theorem hh_X10_chain_0 : scH Tx invX cc_X10_chain_0 := scCheck_ok (X := xx_X10_chain_0) (nodes := [(22, ([(0, 7), (0, 1), ((-2147483648), 2147483647), (0, 7), (0, 8), (0, 8)], [some (.inr (.inr (.inl [0]))), some (.inl (some 0, 0)), some (.inl (some 1, 0)), some (.inl (some 2, 0)), some (.inl (some 3, 0)), some (.inl (some 4, 0)), none], [], [((3, 9), (some 5, 0))]), ([0, 0, 0, 0, (-2)], 16))]) (fuel := 4000) ⟨lkX10.1, lkX10.2, fa_cons (⟨⟨3, cv_X10_169, rfl⟩, hh_nw5⟩) (fa_cons (⟨cs_X10_182, hh_J6_bitCount_0f7a4_0⟩) (fa_cons (⟨⟨1, cv_X10_197, rfl⟩, hh_hand_needLife⟩) (fa_nil))), na_copy⟩ (by decide +kernel) dtX10_chain (by decide +kernel)
abbrev cc_X10_needPart_0 : scC := (qX10_needPart, 1, [((-2147483648), 2147483647)], [.inr (.inr (.inl [0])), .inl (some 0, 0)], [], [(0, (0, 0), [], [], []), (4, (0, 0), [], [], [])], [(0, 16, 1)])
set_option maxRecDepth 20000 in
abbrev xx_X10_needPart_0 : scX := (Tx, invX, lnX10, [(169, 0, 10, cc_nw5)], cc_X10_needPart_0)
set_option maxRecDepth 20000 in
theorem hh_X10_needPart_0 : scH Tx invX cc_X10_needPart_0 := scCheck_ok (X := xx_X10_needPart_0) (nodes := []) (fuel := 4000) ⟨lkX10.1, lkX10.2, fa_cons (⟨⟨3, cv_X10_169, rfl⟩, hh_nw5⟩) (fa_nil), na_copy⟩ (by decide +kernel) dtX10_needPart (by decide +kernel)
abbrev cc_X10_loss_0 : scC := (qX10_loss, 2, [((-2147483648), 2147483647)], [.inr (.inr (.inl [0])), .inl (some 0, 0)], [], [(2, ((-9223372036854775808), 9223372036854775807), [], [], []), (4, (0, 0), [], [], [])], [(0, 16, 1)])
set_option maxRecDepth 20000 in
abbrev xx_X10_loss_0 : scX := (Tx, invX, lnX10, [(244, 0, 10, cc_X10_needPart_0), (253, 1, 0, cc_hand_termOf)], cc_X10_loss_0)
set_option maxRecDepth 20000 in
theorem hh_X10_loss_0 : scH Tx invX cc_X10_loss_0 := scCheck_ok (X := xx_X10_loss_0) (nodes := []) (fuel := 4000) ⟨lkX10.1, lkX10.2, fa_cons (⟨⟨1, cv_X10_244, rfl⟩, hh_X10_needPart_0⟩) (fa_cons (⟨cs_X10_253, hh_hand_termOf⟩) (fa_nil)), na_copy⟩ (by decide +kernel) dtX10_loss (by decide +kernel)
abbrev cc_X0_costWhen_0 : scC := (qX0_costWhen, 3, [(0, 7), (0, 7), ((-2147483648), 2147483647)], [.inr (.inr (.inl [32])), .inr (.inr (.inl [47])), .inl (some 0, 0), .inl (some 1, 0), .inl (some 2, 0)], [], [(2, ((-9223372036854775808), 9223372036854775807), [], [], [])], [(26, 0, 24)])
set_option maxRecDepth 20000 in
abbrev xx_X0_costWhen_0 : scX := (Tx, invX, lnX0, [(71, 0, 0, cc_X0_wrongWhen_0)], cc_X0_costWhen_0)
set_option maxRecDepth 20000 in
theorem hh_X0_costWhen_0 : scH Tx invX cc_X0_costWhen_0 := scCheck_ok (X := xx_X0_costWhen_0) (nodes := []) (fuel := 4000) ⟨lkX0.1, lkX0.2, fa_cons (⟨⟨4, cv_X0_71, rfl⟩, hh_X0_wrongWhen_0⟩) (fa_nil), na_copy⟩ (by decide +kernel) dtX0_costWhen (by decide +kernel)
abbrev cc_X10_cost_0 : scC := (qX10_cost, 4, [((-2147483648), 2147483647), ((-2147483648), 2147483647)], [.inr (.inr (.inl [0])), .inl (some 0, 0), .inl (some 1, 0)], [], [(2, ((-9223372036854775808), 9223372036854775807), [], [], []), (4, (0, 0), [], [], []), (5, (0, 0), [], [], [])], [(0, 15, 2), (26, 0, 24)])
set_option maxRecDepth 20000 in
abbrev xx_X10_cost_0 : scX := (Tx, invX, lnX10, [(197, 0, 10, cc_hand_needLife), (215, 0, 6, cc_X6_isAlive_0), (244, 0, 10, cc_X10_needPart_0), (253, 1, 0, cc_hand_termOf), (257, 0, 0, cc_X0_costWhen_0)], cc_X10_cost_0)
set_option maxRecDepth 20000 in
theorem hh_X10_cost_0 : scH Tx invX cc_X10_cost_0 := scCheck_ok (X := xx_X10_cost_0) (nodes := []) (fuel := 4000) ⟨lkX10.1, lkX10.2, fa_cons (⟨⟨1, cv_X10_197, rfl⟩, hh_hand_needLife⟩) (fa_cons (⟨⟨1, cv_X10_215, rfl⟩, hh_X6_isAlive_0⟩) (fa_cons (⟨⟨1, cv_X10_244, rfl⟩, hh_X10_needPart_0⟩) (fa_cons (⟨cs_X10_253, hh_hand_termOf⟩) (fa_cons (⟨⟨4, cv_X10_257, rfl⟩, hh_X0_costWhen_0⟩) (fa_nil))))), na_copy⟩ (by decide +kernel) dtX10_cost (by decide +kernel)
abbrev cc_X0_yearsWhen_1 : scC := (qX0_yearsWhen, 0, [(0, 7), ((-2147483648), 2147483647)], [.inr (.inr (.inl [32])), .inr (.inr (.inl [47])), .inl (some 0, 0), .inl (some 1, 0)], [], [(1, ((-2147483648), 2147483647), [], [], [])], [])
set_option maxRecDepth 20000 in
abbrev xx_X0_yearsWhen_1 : scX := (Tx, invX, lnX0, [], cc_X0_yearsWhen_1)
set_option maxRecDepth 20000 in
theorem hh_X0_yearsWhen_1 : scH Tx invX cc_X0_yearsWhen_1 := scCheck_ok (X := xx_X0_yearsWhen_1) (nodes := []) (fuel := 4000) ⟨lkX0.1, lkX0.2, fa_nil, na_copy⟩ (by decide +kernel) dtX0_yearsWhen (by decide +kernel)
abbrev cc_X0_wrongWhen_1 : scC := (qX0_wrongWhen, 2, [(0, 7), ((-2147483648), 2147483647), ((-2147483648), 2147483647)], [.inr (.inr (.inl [32])), .inr (.inr (.inl [47])), .inl (some 0, 0), .inl (some 1, 0), .inl (some 2, 0)], [], [(1, (0, 64), [], [], [])], [(26, 0, 24)])
set_option maxRecDepth 20000 in
abbrev xx_X0_wrongWhen_1 : scX := (Tx, invX, lnX0, [(42, 0, 8, cc_X8_changesBetween_0), (46, 0, 0, cc_X0_yearsWhen_1), (53, 0, 0, cc_X0_signerDead_0), (57, 0, 1, cc_X1_outcome_0)], cc_X0_wrongWhen_1)
set_option maxRecDepth 20000 in
theorem hh_X0_wrongWhen_1 : scH Tx invX cc_X0_wrongWhen_1 := scCheck_ok (X := xx_X0_wrongWhen_1) (nodes := []) (fuel := 4000) ⟨lkX0.1, lkX0.2, fa_cons (⟨⟨3, cv_X0_42, rfl⟩, hh_X8_changesBetween_0⟩) (fa_cons (⟨⟨3, cv_X0_46, rfl⟩, hh_X0_yearsWhen_1⟩) (fa_cons (⟨⟨2, cv_X0_53, rfl⟩, hh_X0_signerDead_0⟩) (fa_cons (⟨⟨5, cv_X0_57, rfl⟩, hh_X1_outcome_0⟩) (fa_nil)))), na_copy⟩ (by decide +kernel) dtX0_wrongWhen (by decide +kernel)
abbrev cc_X0_costWhen_1 : scC := (qX0_costWhen, 3, [(0, 7), ((-2147483648), 2147483647), ((-2147483648), 2147483647)], [.inr (.inr (.inl [32])), .inr (.inr (.inl [47])), .inl (some 0, 0), .inl (some 1, 0), .inl (some 2, 0)], [], [(2, ((-9223372036854775808), 9223372036854775807), [], [], [])], [(26, 0, 24)])
set_option maxRecDepth 20000 in
abbrev xx_X0_costWhen_1 : scX := (Tx, invX, lnX0, [(71, 0, 0, cc_X0_wrongWhen_1)], cc_X0_costWhen_1)
set_option maxRecDepth 20000 in
theorem hh_X0_costWhen_1 : scH Tx invX cc_X0_costWhen_1 := scCheck_ok (X := xx_X0_costWhen_1) (nodes := []) (fuel := 4000) ⟨lkX0.1, lkX0.2, fa_cons (⟨⟨4, cv_X0_71, rfl⟩, hh_X0_wrongWhen_1⟩) (fa_nil), na_copy⟩ (by decide +kernel) dtX0_costWhen (by decide +kernel)
abbrev cc_X0_riskWhen_0 : scC := (qX0_riskWhen, 4, [((-2147483648), 2147483647)], [.inr (.inr (.inl [32])), .inr (.inr (.inl [47])), .inl (some 0, 0)], [], [(2, ((-9223372036854775808), 9223372036854775807), [], [], [])], [(26, 0, 24)])
set_option maxRecDepth 20000 in
abbrev xx_X0_riskWhen_0 : scX := (Tx, invX, lnX0, [(38, 0, 6, cc_X6_isAlive_0), (84, 0, 0, cc_X0_costWhen_1)], cc_X0_riskWhen_0)
set_option maxRecDepth 20000 in
theorem hh_X0_riskWhen_0 : scH Tx invX cc_X0_riskWhen_0 := scCheck_ok (X := xx_X0_riskWhen_0) (nodes := [(5, ([((-2147483648), 2147483647), (0, 8), (0, 64), ((-2147483648), 2147483647), (0, 8)], [some (.inr (.inr (.inl [32]))), some (.inr (.inr (.inl [47]))), some (.inl (some 0, 0)), some (.inr (.inl ((-9223372036854775808), 9223372036854775807))), none, some (.inl (some 1, 0)), none, none], [], [((5, 0), (some 2, 0)), ((48, 0), (some 3, 0)), ((3, 9), (some 4, 0))]), ([0, (-2)], 16))]) (fuel := 4000) ⟨lkX0.1, lkX0.2, fa_cons (⟨⟨1, cv_X0_38, rfl⟩, hh_X6_isAlive_0⟩) (fa_cons (⟨⟨4, cv_X0_84, rfl⟩, hh_X0_costWhen_1⟩) (fa_nil)), na_copy⟩ (by decide +kernel) dtX0_riskWhen (by decide +kernel)
abbrev cc_X10_risk_0 : scC := (qX10_risk, 5, [((-2147483648), 2147483647)], [.inr (.inr (.inl [0])), .inl (some 0, 0)], [], [(2, ((-9223372036854775808), 9223372036854775807), [], [], []), (4, (0, 0), [], [], [])], [(0, 16, 1), (26, 0, 24)])
set_option maxRecDepth 20000 in
abbrev xx_X10_risk_0 : scX := (Tx, invX, lnX10, [(244, 0, 10, cc_X10_needPart_0), (253, 1, 0, cc_hand_termOf), (261, 0, 0, cc_X0_riskWhen_0)], cc_X10_risk_0)
set_option maxRecDepth 20000 in
theorem hh_X10_risk_0 : scH Tx invX cc_X10_risk_0 := scCheck_ok (X := xx_X10_risk_0) (nodes := []) (fuel := 4000) ⟨lkX10.1, lkX10.2, fa_cons (⟨⟨1, cv_X10_244, rfl⟩, hh_X10_needPart_0⟩) (fa_cons (⟨cs_X10_253, hh_hand_termOf⟩) (fa_cons (⟨⟨2, cv_X10_261, rfl⟩, hh_X0_riskWhen_0⟩) (fa_nil))), na_copy⟩ (by decide +kernel) dtX10_risk (by decide +kernel)
abbrev cc_X0_hoursFor_0 : scC := (qX0_hoursFor, 2, [(0, 7)], [.inr (.inr (.inl [32])), .inr (.inr (.inl [47])), .inl (some 0, 0)], [], [(1, (0, 9), [], [], [])], [])
set_option maxRecDepth 20000 in
abbrev xx_X0_hoursFor_0 : scX := (Tx, invX, lnX0, [(91, 0, 8, cc_X8_renewHours_0)], cc_X0_hoursFor_0)
set_option maxRecDepth 20000 in
theorem hh_X0_hoursFor_0 : scH Tx invX cc_X0_hoursFor_0 := scCheck_ok (X := xx_X0_hoursFor_0) (nodes := []) (fuel := 4000) ⟨lkX0.1, lkX0.2, fa_cons (⟨⟨1, cv_X0_91, rfl⟩, hh_X8_renewHours_0⟩) (fa_nil), na_copy⟩ (by decide +kernel) dtX0_hoursFor (by decide +kernel)
abbrev cc_X0_canBePut_0 : scC := (qX0_canBePut, 1, [(0, 7)], [.inr (.inr (.inl [32])), .inr (.inr (.inl [47])), .inl (some 0, 0)], [], [(1, (0, 1), [], [], [])], [])
set_option maxRecDepth 20000 in
abbrev xx_X0_canBePut_0 : scX := (Tx, invX, lnX0, [(38, 0, 6, cc_X6_isAlive_0)], cc_X0_canBePut_0)
set_option maxRecDepth 20000 in
theorem hh_X0_canBePut_0 : scH Tx invX cc_X0_canBePut_0 := scCheck_ok (X := xx_X0_canBePut_0) (nodes := []) (fuel := 4000) ⟨lkX0.1, lkX0.2, fa_cons (⟨⟨1, cv_X0_38, rfl⟩, hh_X6_isAlive_0⟩) (fa_nil), na_copy⟩ (by decide +kernel) dtX0_canBePut (by decide +kernel)
abbrev cc_X0_savedRisk_0 : scC := (qX0_savedRisk, 4, [(0, 7)], [.inr (.inr (.inl [32])), .inr (.inr (.inl [47])), .inl (some 0, 0)], [], [(2, ((-9223372036854775808), 9223372036854775807), [], [], [])], [(26, 0, 24)])
set_option maxRecDepth 20000 in
abbrev xx_X0_savedRisk_0 : scX := (Tx, invX, lnX0, [(84, 0, 0, cc_X0_costWhen_0), (95, 0, 0, cc_X0_canBePut_0)], cc_X0_savedRisk_0)
set_option maxRecDepth 20000 in
theorem hh_X0_savedRisk_0 : scH Tx invX cc_X0_savedRisk_0 := scCheck_ok (X := xx_X0_savedRisk_0) (nodes := []) (fuel := 4000) ⟨lkX0.1, lkX0.2, fa_cons (⟨⟨4, cv_X0_84, rfl⟩, hh_X0_costWhen_0⟩) (fa_cons (⟨⟨2, cv_X0_95, rfl⟩, hh_X0_canBePut_0⟩) (fa_nil)), na_copy⟩ (by decide +kernel) dtX0_savedRisk (by decide +kernel)
abbrev cc_X10_saves_0 : scC := (qX10_saves, 5, [((-2147483648), 2147483647), ((-2147483648), 2147483647)], [.inr (.inr (.inl [0])), .inl (some 0, 0), .inl (some 1, 0)], [], [(2, ((-9223372036854775808), 9223372036854775807), [], [], []), (4, (0, 0), [], [], []), (5, (0, 0), [], [], [])], [(0, 15, 2), (26, 0, 24)])
set_option maxRecDepth 20000 in
abbrev xx_X10_saves_0 : scX := (Tx, invX, lnX10, [(197, 0, 10, cc_hand_needLife), (244, 0, 10, cc_X10_needPart_0), (253, 1, 0, cc_hand_termOf), (267, 0, 0, cc_X0_hoursFor_0), (270, 0, 0, cc_X0_savedRisk_0)], cc_X10_saves_0)
set_option maxRecDepth 20000 in
theorem hh_X10_saves_0 : scH Tx invX cc_X10_saves_0 := scCheck_ok (X := xx_X10_saves_0) (nodes := []) (fuel := 4000) ⟨lkX10.1, lkX10.2, fa_cons (⟨⟨1, cv_X10_197, rfl⟩, hh_hand_needLife⟩) (fa_cons (⟨⟨1, cv_X10_244, rfl⟩, hh_X10_needPart_0⟩) (fa_cons (⟨cs_X10_253, hh_hand_termOf⟩) (fa_cons (⟨⟨2, cv_X10_267, rfl⟩, hh_X0_hoursFor_0⟩) (fa_cons (⟨⟨2, cv_X10_270, rfl⟩, hh_X0_savedRisk_0⟩) (fa_nil))))), na_copy⟩ (by decide +kernel) dtX10_saves (by decide +kernel)
abbrev cc_X0_firstOf_0 : scC := (qX0_firstOf, 3, [(12, 12)], [.inr (.inr (.inl [32])), .inr (.inr (.inl [47])), .inr (.inr (.inl [33])), .inl (some 0, 0)], [], [(1, ((-1), 7), [], [], [])], [])
set_option maxRecDepth 20000 in
abbrev xx_X0_firstOf_0 : scX := (Tx, invX, lnX0, [(113, 0, 0, cc_X0_hoursFor_0)], cc_X0_firstOf_0)
set_option maxRecDepth 20000 in
theorem hh_X0_firstOf_0 : scH Tx invX cc_X0_firstOf_0 := scCheck_ok (X := xx_X0_firstOf_0) (nodes := [(12, ([(12, 12), ((-1), 7), (0, 9), (0, 8), (0, 8)], [some (.inr (.inr (.inl [32]))), some (.inr (.inr (.inl [47]))), some (.inr (.inr (.inl [33]))), some (.inl (some 0, 0)), some (.inl (some 1, 0)), some (.inr (.inl ((-9223372036854775808), 9223372036854775807))), none, some (.inl (some 2, 0)), some (.inl (some 3, 0)), none], [], [((3, 9), (some 4, 0))]), ([0, 0, 0, (-2)], 16))]) (fuel := 4000) ⟨lkX0.1, lkX0.2, fa_cons (⟨⟨2, cv_X0_113, rfl⟩, hh_X0_hoursFor_0⟩) (fa_nil), na_copy⟩ (by decide +kernel) dtX0_firstOf (by decide +kernel)
abbrev cc_X0_firstOfAll_0 : scC := (qX0_firstOfAll, 5, [], [.inr (.inr (.inl [32])), .inr (.inr (.inl [47]))], [], [(1, ((-1), 7), [], [], [])], [(26, 0, 24), (33, 0, 8)])
set_option maxRecDepth 20000 in
abbrev xx_X0_firstOfAll_0 : scX := (Tx, invX, lnX0, [(105, 0, 0, cc_X0_savedRisk_0), (109, 0, 0, cc_X0_firstOf_0)], cc_X0_firstOfAll_0)
set_option maxRecDepth 20000 in
theorem hh_X0_firstOfAll_0 : scH Tx invX cc_X0_firstOfAll_0 := scCheck_ok (X := xx_X0_firstOfAll_0) (nodes := [(2, ([(0, 8), (0, 8)], [some (.inr (.inr (.inl [32]))), some (.inr (.inr (.inl [47]))), some (.inl (some 0, 0))], [], [((3, 9), (some 1, 0))]), ([(-2)], 16))]) (fuel := 4000) ⟨lkX0.1, lkX0.2, fa_cons (⟨⟨2, cv_X0_105, rfl⟩, hh_X0_savedRisk_0⟩) (fa_cons (⟨⟨3, cv_X0_109, rfl⟩, hh_X0_firstOf_0⟩) (fa_nil)), na_copy⟩ (by decide +kernel) dtX0_firstOfAll (by decide +kernel)
abbrev cc_X10_first_0 : scC := (qX10_first, 6, [], [.inr (.inr (.inl [0]))], [], [(1, ((-1), 7), [], [], [])], [(26, 0, 24), (33, 0, 8)])
set_option maxRecDepth 20000 in
abbrev xx_X10_first_0 : scX := (Tx, invX, lnX10, [(273, 0, 0, cc_X0_firstOfAll_0)], cc_X10_first_0)
set_option maxRecDepth 20000 in
theorem hh_X10_first_0 : scH Tx invX cc_X10_first_0 := scCheck_ok (X := xx_X10_first_0) (nodes := []) (fuel := 4000) ⟨lkX10.1, lkX10.2, fa_cons (⟨⟨1, cv_X10_273, rfl⟩, hh_X0_firstOfAll_0⟩) (fa_nil), na_copy⟩ (by decide +kernel) dtX10_first (by decide +kernel)
abbrev cc_X10_aheadMost_0 : scC := (qX10_aheadMost, 1, [], [.inr (.inr (.inl [0]))], [], [(1, (0, 60), [], [], [])], [])
set_option maxRecDepth 20000 in
abbrev xx_X10_aheadMost_0 : scX := (Tx, invX, lnX10, [], cc_X10_aheadMost_0)
set_option maxRecDepth 20000 in
theorem hh_X10_aheadMost_0 : scH Tx invX cc_X10_aheadMost_0 := scCheck_ok (X := xx_X10_aheadMost_0) (nodes := []) (fuel := 4000) ⟨lkX10.1, lkX10.2, fa_nil, na_copy⟩ (by decide +kernel) dtX10_aheadMost (by decide +kernel)
abbrev cc_X10_ahead_0 : scC := (qX10_ahead, 5, [((-2147483648), 2147483647), ((-2147483648), 2147483647)], [.inr (.inr (.inl [0])), .inl (some 0, 0), .inl (some 1, 0)], [], [(2, ((-9223372036854775808), 9223372036854775807), [], [], []), (4, (0, 0), [], [], [])], [(0, 16, 1), (26, 0, 24)])
set_option maxRecDepth 20000 in
abbrev xx_X10_ahead_0 : scX := (Tx, invX, lnX10, [(169, 0, 10, cc_nw8), (244, 0, 10, cc_X10_needPart_0), (253, 1, 0, cc_hand_termOf), (261, 0, 0, cc_X0_riskWhen_0), (277, 0, 10, cc_X10_aheadMost_0)], cc_X10_ahead_0)
set_option maxRecDepth 20000 in
theorem hh_X10_ahead_0 : scH Tx invX cc_X10_ahead_0 := scCheck_ok (X := xx_X10_ahead_0) (nodes := []) (fuel := 4000) ⟨lkX10.1, lkX10.2, fa_cons (⟨⟨3, cv_X10_169, rfl⟩, hh_nw8⟩) (fa_cons (⟨⟨1, cv_X10_244, rfl⟩, hh_X10_needPart_0⟩) (fa_cons (⟨cs_X10_253, hh_hand_termOf⟩) (fa_cons (⟨⟨2, cv_X10_261, rfl⟩, hh_X0_riskWhen_0⟩) (fa_cons (⟨⟨0, cv_X10_277, rfl⟩, hh_X10_aheadMost_0⟩) (fa_nil))))), na_copy⟩ (by decide +kernel) dtX10_ahead (by decide +kernel)
abbrev cc_X10_worst_0 : scC := (qX10_worst, 5, [], [.inr (.inr (.inl [0]))], [], [(1, (0, 2147483647), [], [], [])], [(26, 0, 24)])
set_option maxRecDepth 20000 in
abbrev xx_X10_worst_0 : scX := (Tx, invX, lnX10, [(261, 0, 0, cc_X0_riskWhen_0), (277, 0, 10, cc_X10_aheadMost_0)], cc_X10_worst_0)
set_option maxRecDepth 20000 in
theorem hh_X10_worst_0 : scH Tx invX cc_X10_worst_0 := scCheck_ok (X := xx_X10_worst_0) (nodes := [(9, ([(0, 2147483647), (0, 61)], [some (.inr (.inr (.inl [0]))), some (.inl (some 0, 0)), some (.inr (.inl ((-9223372036854775808), 9223372036854775807))), none, some (.inl (some 1, 0)), none, none], [], []), ([0, (-2)], 122))]) (fuel := 4000) ⟨lkX10.1, lkX10.2, fa_cons (⟨⟨2, cv_X10_261, rfl⟩, hh_X0_riskWhen_0⟩) (fa_cons (⟨⟨0, cv_X10_277, rfl⟩, hh_X10_aheadMost_0⟩) (fa_nil)), na_copy⟩ (by decide +kernel) dtX10_worst (by decide +kernel)
abbrev cc_X10_lives_0 : scC := (qX10_lives, 2, [((-2147483648), 2147483647), ((-2147483648), 2147483647), ((-2147483648), 2147483647)], [.inr (.inr (.inl [0])), .inl (some 0, 0), .inl (some 1, 0), .inl (some 2, 0)], [], [(2, ((-9223372036854775808), 9223372036854775807), [], [], []), (4, (0, 0), [], [], []), (5, (0, 0), [], [], [])], [(0, 15, 2)])
set_option maxRecDepth 20000 in
abbrev xx_X10_lives_0 : scX := (Tx, invX, lnX10, [(169, 0, 10, cc_nw1), (197, 0, 10, cc_hand_needLife), (215, 0, 6, cc_X6_isAlive_0), (244, 0, 10, cc_X10_needPart_0), (253, 1, 0, cc_hand_termOf)], cc_X10_lives_0)
set_option maxRecDepth 20000 in
theorem hh_X10_lives_0 : scH Tx invX cc_X10_lives_0 := scCheck_ok (X := xx_X10_lives_0) (nodes := [(45, ([(0, 7), (0, 8), ((-2147483648), 2147483647), (0, 8)], [some (.inr (.inr (.inl [0]))), some (.inl (some 0, 0)), some (.inl (some 1, 0)), some (.inl (some 2, 0)), some (.inr (.inl ((-9223372036854775808), 9223372036854775807))), none, some (.inl (some 3, 0))], [], []), ([0, 0, 0, (-2)], 16))]) (fuel := 4000) ⟨lkX10.1, lkX10.2, fa_cons (⟨⟨3, cv_X10_169, rfl⟩, hh_nw1⟩) (fa_cons (⟨⟨1, cv_X10_197, rfl⟩, hh_hand_needLife⟩) (fa_cons (⟨⟨1, cv_X10_215, rfl⟩, hh_X6_isAlive_0⟩) (fa_cons (⟨⟨1, cv_X10_244, rfl⟩, hh_X10_needPart_0⟩) (fa_cons (⟨cs_X10_253, hh_hand_termOf⟩) (fa_nil))))), na_copy⟩ (by decide +kernel) dtX10_lives (by decide +kernel)
abbrev cc_X10_due_0 : scC := (qX10_due, 3, [((-2147483648), 2147483647), ((-2147483648), 2147483647)], [.inr (.inr (.inl [0])), .inl (some 0, 0), .inl (some 1, 0)], [], [(1, ((-1), 60), [], [], []), (4, (0, 0), [], [], []), (5, (0, 0), [], [], [])], [(0, 15, 2), (26, 0, 24)])
set_option maxRecDepth 20000 in
abbrev xx_X10_due_0 : scX := (Tx, invX, lnX10, [(169, 0, 10, cc_nw7), (197, 0, 10, cc_hand_needLife), (229, 0, 0, cc_X0_wrongWhen_0), (229, 0, 0, cc_X0_wrongWhen_1), (277, 0, 10, cc_X10_aheadMost_0)], cc_X10_due_0)
set_option maxRecDepth 20000 in
theorem hh_X10_due_0 : scH Tx invX cc_X10_due_0 := scCheck_ok (X := xx_X10_due_0) (nodes := [(36, ([(0, 7), (0, 65), ((-2147483648), 2147483647), (0, 61)], [some (.inr (.inr (.inl [0]))), some (.inl (some 0, 0)), some (.inl (some 1, 0)), some (.inl (some 2, 0)), some (.inl (some 3, 0))], [], []), ([0, 0, 0, (-2)], 122))]) (fuel := 4000) ⟨lkX10.1, lkX10.2, fa_cons (⟨⟨3, cv_X10_169, rfl⟩, hh_nw7⟩) (fa_cons (⟨⟨1, cv_X10_197, rfl⟩, hh_hand_needLife⟩) (fa_cons (⟨⟨4, cv_X10_229, rfl⟩, hh_X0_wrongWhen_0⟩) (fa_cons (⟨⟨4, cv_X10_229, rfl⟩, hh_X0_wrongWhen_1⟩) (fa_cons (⟨⟨0, cv_X10_277, rfl⟩, hh_X10_aheadMost_0⟩) (fa_nil))))), na_copy⟩ (by decide +kernel) dtX10_due (by decide +kernel)
abbrev cc_X8_nextChange_0 : scC := (qX8_nextChange, 0, [((-2147483648), 2147483647), ((-2147483648), 2147483647)], [.inr (.inr (.inl [3])), .inl (some 0, 0), .inl (some 1, 0)], [], [(1, ((-1), 60), [], [], [])], [])
set_option maxRecDepth 20000 in
abbrev xx_X8_nextChange_0 : scX := (Tx, invX, lnX8, [], cc_X8_nextChange_0)
set_option maxRecDepth 20000 in
theorem hh_X8_nextChange_0 : scH Tx invX cc_X8_nextChange_0 := scCheck_ok (X := xx_X8_nextChange_0) (nodes := [(5, ([((-2147483648), 2147483647), ((-2147483648), 2147483647), ((-1), 60), (0, 24), (0, 60), (0, 7), (0, 24)], [some (.inr (.inr (.inl [3]))), some (.inl (some 0, 0)), some (.inl (some 1, 0)), some (.inl (some 2, 0)), some (.inl (some 3, 0)), none], [], [((12, 0), (some 4, 0)), ((10, 0), (some 5, 0)), ((3, 10), (some 6, 0))]), ([0, 0, 0, (-2)], 48))]) (fuel := 4000) ⟨lkX8.1, lkX8.2, fa_nil, na_copy⟩ (by decide +kernel) dtX8_nextChange (by decide +kernel)
abbrev cc_X10_news_0 : scC := (qX10_news, 1, [((-2147483648), 2147483647)], [.inr (.inr (.inl [0])), .inl (some 0, 0)], [], [(1, ((-1), 60), [], [], []), (5, (0, 0), [], [], [])], [(0, 15, 1)])
set_option maxRecDepth 20000 in
abbrev xx_X10_news_0 : scX := (Tx, invX, lnX10, [(197, 0, 10, cc_hand_needLife), (283, 0, 8, cc_X8_nextChange_0)], cc_X10_news_0)
set_option maxRecDepth 20000 in
theorem hh_X10_news_0 : scH Tx invX cc_X10_news_0 := scCheck_ok (X := xx_X10_news_0) (nodes := []) (fuel := 4000) ⟨lkX10.1, lkX10.2, fa_cons (⟨⟨1, cv_X10_197, rfl⟩, hh_hand_needLife⟩) (fa_cons (⟨⟨2, cv_X10_283, rfl⟩, hh_X8_nextChange_0⟩) (fa_nil)), na_copy⟩ (by decide +kernel) dtX10_news (by decide +kernel)
abbrev cc_X0_lossAhead_0 : scC := (qX0_lossAhead, 4, [(0, 7), (0, 7), (0, 7)], [.inr (.inr (.inl [32])), .inr (.inr (.inl [47])), .inl (some 0, 0), .inl (some 1, 0), .inl (some 2, 0)], [], [(2, ((-9223372036854775808), 9223372036854775807), [], [], [])], [(26, 0, 24)])
set_option maxRecDepth 20000 in
abbrev xx_X0_lossAhead_0 : scX := (Tx, invX, lnX0, [(84, 0, 0, cc_X0_costWhen_0)], cc_X0_lossAhead_0)
set_option maxRecDepth 20000 in
theorem hh_X0_lossAhead_0 : scH Tx invX cc_X0_lossAhead_0 := scCheck_ok (X := xx_X0_lossAhead_0) (nodes := [(29, ([(0, 7), (0, 7), (0, 7), ((-2147483648), 2147483647), (0, 7)], [some (.inr (.inr (.inl [32]))), some (.inr (.inr (.inl [47]))), some (.inl (some 0, 0)), some (.inl (some 1, 0)), some (.inl (some 2, 0)), some (.inr (.inl (0, 64))), none, some (.inr (.inl ((-9223372036854775808), 9223372036854775807))), none, some (.inr (.inl ((-9223372036854775808), 9223372036854775807))), none, some (.inl (some 3, 0)), some (.inl (some 4, 0))], [], []), ([0, 0, 0, 0, (-2)], 14))]) (fuel := 4000) ⟨lkX0.1, lkX0.2, fa_cons (⟨⟨4, cv_X0_84, rfl⟩, hh_X0_costWhen_0⟩) (fa_nil), na_copy⟩ (by decide +kernel) dtX0_lossAhead (by decide +kernel)
abbrev cc_X10_expects_0 : scC := (qX10_expects, 5, [((-2147483648), 2147483647), ((-2147483648), 2147483647), ((-2147483648), 2147483647)], [.inr (.inr (.inl [0])), .inl (some 0, 0), .inl (some 1, 0), .inl (some 2, 0)], [], [(2, ((-9223372036854775808), 9223372036854775807), [], [], []), (4, (0, 0), [], [], []), (5, (0, 0), [], [], [])], [(0, 15, 2), (26, 0, 24)])
set_option maxRecDepth 20000 in
abbrev xx_X10_expects_0 : scX := (Tx, invX, lnX10, [(169, 0, 10, cc_nw2), (197, 0, 10, cc_hand_needLife), (215, 0, 6, cc_X6_isAlive_0), (244, 0, 10, cc_X10_needPart_0), (253, 1, 0, cc_hand_termOf), (286, 0, 0, cc_X0_lossAhead_0)], cc_X10_expects_0)
set_option maxRecDepth 20000 in
theorem hh_X10_expects_0 : scH Tx invX cc_X10_expects_0 := scCheck_ok (X := xx_X10_expects_0) (nodes := []) (fuel := 4000) ⟨lkX10.1, lkX10.2, fa_cons (⟨⟨3, cv_X10_169, rfl⟩, hh_nw2⟩) (fa_cons (⟨⟨1, cv_X10_197, rfl⟩, hh_hand_needLife⟩) (fa_cons (⟨⟨1, cv_X10_215, rfl⟩, hh_X6_isAlive_0⟩) (fa_cons (⟨⟨1, cv_X10_244, rfl⟩, hh_X10_needPart_0⟩) (fa_cons (⟨cs_X10_253, hh_hand_termOf⟩) (fa_cons (⟨⟨4, cv_X10_286, rfl⟩, hh_X0_lossAhead_0⟩) (fa_nil)))))), na_copy⟩ (by decide +kernel) dtX10_expects (by decide +kernel)
abbrev cc_J7_fill_d0a16_0 : scC := (qJ7_fill_d0a16, 0, [], [.inr (.inr (.inl [35])), .inr (.inl ((-9223372036854775808), 9223372036854775807))], [], [(0, (0, 0), [], [], [])], [(35, 0, 2197)])
set_option maxRecDepth 20000 in
abbrev xx_J7_fill_d0a16_0 : scX := (Tx, invX, lnJ7, [], cc_J7_fill_d0a16_0)
set_option maxRecDepth 20000 in
theorem hh_J7_fill_d0a16_0 : scH Tx invX cc_J7_fill_d0a16_0 := scCheck_ok (X := xx_J7_fill_d0a16_0) (nodes := [(6, ([(0, 2197), (2197, 2197)], [some (.inr (.inr (.inl [35]))), some (.inr (.inl ((-9223372036854775808), 9223372036854775807))), none, some (.inl (some 0, 0)), some (.inl (some 1, 0))], [], []), ([(-2)], 4394))]) (fuel := 4000) ⟨lkJ7.1, lkJ7.2, fa_nil, na_copy⟩ (by decide +kernel) dtJ7_fill_d0a16 (by decide +kernel)
abbrev cc_X3_hoursAtAge_0 : scC := (qX3_hoursAtAge, 2, [(0, 7), ((-2147483648), 2147483647)], [.inr (.inr (.inl [34])), .inl (some 0, 0), .inl (some 1, 0)], [], [(1, (0, 99), [], [], [])], [])
set_option maxRecDepth 20000 in
abbrev xx_X3_hoursAtAge_0 : scX := (Tx, invX, lnX3, [(106, 0, 8, cc_X8_renewHours_0)], cc_X3_hoursAtAge_0)
set_option maxRecDepth 20000 in
theorem hh_X3_hoursAtAge_0 : scH Tx invX cc_X3_hoursAtAge_0 := scCheck_ok (X := xx_X3_hoursAtAge_0) (nodes := []) (fuel := 4000) ⟨lkX3.1, lkX3.2, fa_cons (⟨⟨1, cv_X3_106, rfl⟩, hh_X8_renewHours_0⟩) (fa_nil), na_copy⟩ (by decide +kernel) dtX3_hoursAtAge (by decide +kernel)
abbrev cc_X3_keyShift_0 : scC := (qX3_keyShift, 0, [(0, 0)], [.inl (some 0, 0)], [], [(1, (16, 16), [], [], [])], [])
set_option maxRecDepth 20000 in
abbrev xx_X3_keyShift_0 : scX := (Tx, invX, lnX3, [], cc_X3_keyShift_0)
set_option maxRecDepth 20000 in
theorem hh_X3_keyShift_0 : scH Tx invX cc_X3_keyShift_0 := scCheck_ok (X := xx_X3_keyShift_0) (nodes := []) (fuel := 4000) ⟨lkX3.1, lkX3.2, fa_nil, na_copy⟩ (by decide +kernel) dtX3_keyShift (by decide +kernel)
abbrev cc_X3_keyShift_1 : scC := (qX3_keyShift, 0, [(0, 1)], [.inl (some 0, 0)], [], [(1, (8, 16), [], [], [])], [])
set_option maxRecDepth 20000 in
abbrev xx_X3_keyShift_1 : scX := (Tx, invX, lnX3, [], cc_X3_keyShift_1)
set_option maxRecDepth 20000 in
theorem hh_X3_keyShift_1 : scH Tx invX cc_X3_keyShift_1 := scCheck_ok (X := xx_X3_keyShift_1) (nodes := []) (fuel := 4000) ⟨lkX3.1, lkX3.2, fa_nil, na_copy⟩ (by decide +kernel) dtX3_keyShift (by decide +kernel)
abbrev cc_X3_keyShift_2 : scC := (qX3_keyShift, 0, [(0, 2)], [.inl (some 0, 0)], [], [(1, (0, 16), [], [], [])], [])
set_option maxRecDepth 20000 in
abbrev xx_X3_keyShift_2 : scX := (Tx, invX, lnX3, [], cc_X3_keyShift_2)
set_option maxRecDepth 20000 in
theorem hh_X3_keyShift_2 : scH Tx invX cc_X3_keyShift_2 := scCheck_ok (X := xx_X3_keyShift_2) (nodes := []) (fuel := 4000) ⟨lkX3.1, lkX3.2, fa_nil, na_copy⟩ (by decide +kernel) dtX3_keyShift (by decide +kernel)
abbrev cc_X0_lossAhead_1 : scC := (qX0_lossAhead, 4, [(0, 7), ((-2147483648), 2147483647), (0, 7)], [.inr (.inr (.inl [32])), .inr (.inr (.inl [47])), .inl (some 0, 0), .inl (some 1, 0), .inl (some 2, 0)], [], [(2, ((-9223372036854775808), 9223372036854775807), [], [], [])], [(26, 0, 24)])
set_option maxRecDepth 20000 in
abbrev xx_X0_lossAhead_1 : scX := (Tx, invX, lnX0, [(84, 0, 0, cc_X0_costWhen_0), (84, 0, 0, cc_X0_costWhen_1)], cc_X0_lossAhead_1)
set_option maxRecDepth 20000 in
theorem hh_X0_lossAhead_1 : scH Tx invX cc_X0_lossAhead_1 := scCheck_ok (X := xx_X0_lossAhead_1) (nodes := [(29, ([(0, 7), ((-2147483648), 2147483647), (0, 7), ((-2147483648), 2147483647), (0, 2147483647)], [some (.inr (.inr (.inl [32]))), some (.inr (.inr (.inl [47]))), some (.inl (some 0, 0)), some (.inl (some 1, 0)), some (.inl (some 2, 0)), some (.inr (.inl (0, 64))), none, some (.inr (.inl ((-9223372036854775808), 9223372036854775807))), none, some (.inr (.inl ((-9223372036854775808), 9223372036854775807))), none, some (.inl (some 3, 0)), some (.inl (some 4, 0))], [], []), ([0, 0, 0, 0, (-2)], 4294967294))]) (fuel := 4000) ⟨lkX0.1, lkX0.2, fa_cons (⟨⟨4, cv_X0_84, rfl⟩, hh_X0_costWhen_0⟩) (fa_cons (⟨⟨4, cv_X0_84, rfl⟩, hh_X0_costWhen_1⟩) (fa_nil)), na_copy⟩ (by decide +kernel) dtX0_lossAhead (by decide +kernel)
abbrev cc_X3_weighWays_0 : scC := (qX3_weighWays, 5, [(0, 7), ((-2147483648), 2147483647)], [.inr (.inr (.inl [34])), .inr (.inr (.inl [47])), .inl (some 0, 0), .inl (some 1, 0)], [], [(0, (0, 0), [], [], [])], [(26, 0, 24), (36, 0, 8), (37, 0, 24)])
set_option maxRecDepth 20000 in
abbrev xx_X3_weighWays_0 : scX := (Tx, invX, lnX3, [(37, 1, 0, cc_X3_keyShift_0), (37, 1, 0, cc_X3_keyShift_1), (37, 1, 0, cc_X3_keyShift_2), (97, 0, 3, cc_X3_hoursAtAge_0), (100, 0, 0, cc_X0_lossAhead_1)], cc_X3_weighWays_0)
set_option maxRecDepth 20000 in
theorem hh_X3_weighWays_0 : scH Tx invX cc_X3_weighWays_0 := scCheck_ok (X := xx_X3_weighWays_0) (nodes := [(3, ([(0, 7), ((-2147483648), 2147483647), (0, 8), (0, 99)], [some (.inr (.inr (.inl [34]))), some (.inr (.inr (.inl [47]))), some (.inl (some 0, 0)), some (.inl (some 1, 0)), some (.inl (some 2, 0)), none, none, none, none, none], [], [((37, 0), (some 3, 0))]), ([0, 0, (-10)], 88)), (32, ([(0, 7), ((-2147483648), 2147483647), (0, 7), ((-2147483648), 2147483647), (0, 3), (0, 99)], [some (.inr (.inr (.inl [34]))), some (.inr (.inr (.inl [47]))), some (.inl (some 0, 0)), some (.inl (some 1, 0)), some (.inl (some 2, 0)), some (.inr (.inl ((-9223372036854775808), 9223372036854775807))), none, some (.inl (some 3, 0)), some (.inl (some 4, 0)), none], [], [((37, 0), (some 5, 0))]), ([0, 0, (-10), 0, (-2)], 86))]) (fuel := 4000) ⟨lkX3.1, lkX3.2, fa_cons (⟨cs_X3_37, hh_X3_keyShift_0⟩) (fa_cons (⟨cs_X3_37, hh_X3_keyShift_1⟩) (fa_cons (⟨cs_X3_37, hh_X3_keyShift_2⟩) (fa_cons (⟨⟨2, cv_X3_97, rfl⟩, hh_X3_hoursAtAge_0⟩) (fa_cons (⟨⟨4, cv_X3_100, rfl⟩, hh_X0_lossAhead_1⟩) (fa_nil))))), na_copy⟩ (by decide +kernel) dtX3_weighWays (by decide +kernel)
abbrev cc_X3_cellOf_0 : scC := (qX3_cellOf, 0, [(0, 12), (0, 12), (0, 12)], [.inl (some 0, 0), .inl (some 1, 0), .inl (some 2, 0)], [], [(1, (0, 2196), [], [], [])], [])
set_option maxRecDepth 20000 in
abbrev xx_X3_cellOf_0 : scX := (Tx, invX, lnX3, [], cc_X3_cellOf_0)
set_option maxRecDepth 20000 in
theorem hh_X3_cellOf_0 : scH Tx invX cc_X3_cellOf_0 := scCheck_ok (X := xx_X3_cellOf_0) (nodes := []) (fuel := 4000) ⟨lkX3.1, lkX3.2, fa_nil, na_copy⟩ (by decide +kernel) dtX3_cellOf (by decide +kernel)
abbrev cc_X3_cellOf_1 : scC := (qX3_cellOf, 0, [((-2147483648), 2147483647), ((-2147483648), 2147483647), ((-2147483648), 2147483647)], [.inl (some 0, 0), .inl (some 1, 0), .inl (some 2, 0)], [], [(1, ((-2147483648), 2147483647), [], [], [])], [])
set_option maxRecDepth 20000 in
abbrev xx_X3_cellOf_1 : scX := (Tx, invX, lnX3, [], cc_X3_cellOf_1)
set_option maxRecDepth 20000 in
theorem hh_X3_cellOf_1 : scH Tx invX cc_X3_cellOf_1 := scCheck_ok (X := xx_X3_cellOf_1) (nodes := []) (fuel := 4000) ⟨lkX3.1, lkX3.2, fa_nil, na_copy⟩ (by decide +kernel) dtX3_cellOf (by decide +kernel)
abbrev cc_X3_leastOf_0 : scC := (qX3_leastOf, 1, [((-2147483648), 2147483647), (0, 12), (0, 12), (0, 12)], [.inr (.inr (.inl [34])), .inl (some 0, 0), .inl (some 1, 0), .inl (some 2, 0), .inl (some 3, 0)], [], [(2, ((-9223372036854775808), 9223372036854775807), [], [], [])], [])
set_option maxRecDepth 20000 in
abbrev xx_X3_leastOf_0 : scX := (Tx, invX, lnX3, [(90, 1, 0, cc_X3_cellOf_0)], cc_X3_leastOf_0)
set_option maxRecDepth 20000 in
theorem hh_X3_leastOf_0 : scH Tx invX cc_X3_leastOf_0 := scCheck_ok (X := xx_X3_leastOf_0) (nodes := [(24, ([((-2147483648), 2147483647), (0, 12), (0, 12), (0, 12), (1, 8), (0, 99), (0, 99), (0, 99)], [some (.inr (.inr (.inl [34]))), some (.inl (some 0, 0)), some (.inl (some 1, 0)), some (.inl (some 2, 0)), some (.inl (some 3, 0)), some (.inr (.inl ((-9223372036854775808), 9223372036854775807))), none, some (.inl (some 4, 0)), none, none, none], [], [((37, 5), (some 5, 0)), ((37, 4), (some 6, 0)), ((37, 3), (some 7, 0))]), ([0, 0, 0, 0, (-2)], 16))]) (fuel := 4000) ⟨lkX3.1, lkX3.2, fa_cons (⟨cs_X3_90, hh_X3_cellOf_0⟩) (fa_nil), na_copy⟩ (by decide +kernel) dtX3_leastOf (by decide +kernel)
abbrev cc_X3_addLife_0 : scC := (qX3_addLife, 2, [((-2147483648), 2147483647)], [.inr (.inr (.inl [34])), .inl (some 0, 0)], [], [(0, (0, 0), [], [], [])], [(35, 0, 2197)])
set_option maxRecDepth 20000 in
abbrev xx_X3_addLife_0 : scX := (Tx, invX, lnX3, [(90, 1, 0, cc_X3_cellOf_0), (109, 0, 3, cc_X3_leastOf_0)], cc_X3_addLife_0)
set_option maxRecDepth 20000 in
theorem hh_X3_addLife_0 : scH Tx invX cc_X3_addLife_0 := scCheck_ok (X := xx_X3_addLife_0) (nodes := [(7, ([((-2147483648), 2147483647), ((-1), 12), (0, 12), (0, 12), (0, 12)], [some (.inr (.inr (.inl [34]))), some (.inl (some 0, 0)), some (.inl (some 1, 0)), none, none], [], [((38, 0), (some 2, 0)), ((38, 1), (some 3, 0)), ((38, 2), (some 4, 0))]), ([0, 422], 842)), (18, ([((-2147483648), 2147483647), (0, 12), ((-1), 12), (0, 12), (0, 12), (0, 12)], [some (.inr (.inr (.inl [34]))), some (.inl (some 0, 0)), some (.inl (some 1, 0)), some (.inl (some 2, 0)), none], [], [((38, 1), (some 3, 0)), ((38, 0), (some 4, 0)), ((38, 2), (some 5, 0))]), ([0, 422, 30], 480)), (30, ([((-2147483648), 2147483647), (0, 12), (0, 12), ((-1), 12), (0, 12), (0, 12), (0, 12)], [some (.inr (.inr (.inl [34]))), some (.inl (some 0, 0)), some (.inl (some 1, 0)), some (.inl (some 2, 0)), some (.inl (some 3, 0))], [], [((38, 2), (some 4, 0)), ((38, 1), (some 5, 0)), ((38, 0), (some 6, 0))]), ([0, 422, 30, 2], 454))]) (fuel := 4000) ⟨lkX3.1, lkX3.2, fa_cons (⟨cs_X3_90, hh_X3_cellOf_0⟩) (fa_cons (⟨⟨4, cv_X3_109, rfl⟩, hh_X3_leastOf_0⟩) (fa_nil)), na_copy⟩ (by decide +kernel) dtX3_addLife (by decide +kernel)
abbrev cc_X3_prepare_0 : scC := (qX3_prepare, 6, [((-2147483648), 2147483647)], [.inr (.inr (.inl [34])), .inr (.inr (.inl [47])), .inl (some 0, 0)], [], [(0, (0, 0), [], [], [])], [(26, 0, 24), (34, 5, 2), (35, 0, 2197), (36, 0, 8), (37, 0, 24), (38, 0, 3)])
set_option maxRecDepth 20000 in
abbrev xx_X3_prepare_0 : scX := (Tx, invX, lnX3, [(41, 1, 0, cc_J7_fill_d0a16_0), (75, 0, 6, cc_X6_isAlive_0), (82, 0, 3, cc_X3_weighWays_0), (86, 0, 3, cc_X3_addLife_0), (90, 1, 0, cc_X3_cellOf_0)], cc_X3_prepare_0)
set_option maxRecDepth 20000 in
theorem hh_X3_prepare_0 : scH Tx invX cc_X3_prepare_0 := scCheck_ok (X := xx_X3_prepare_0) (nodes := [(19, ([((-2147483648), 2147483647), (0, 3), ((-2147483648), 2147483647), (0, 12), ((-2147483648), 2147483647), (0, 12), ((-1), 12)], [some (.inr (.inr (.inl [34]))), some (.inr (.inr (.inl [47]))), some (.inl (some 0, 0)), some (.inl (some 1, 0)), none], [], [((34, 5), (some 2, 0)), ((38, 0), (some 3, 0)), ((47, 3), (some 4, 0)), ((38, 1), (some 5, 0)), ((3, 11), (some 6, 0))]), ([0, (-2)], 24)), (81, ([((-2147483648), 2147483647), (0, 8), ((-2147483648), 2147483647), (0, 12), ((-2147483648), 2147483647), (0, 12), ((-1), 12), (0, 64), (0, 8)], [some (.inr (.inr (.inl [34]))), some (.inr (.inr (.inl [47]))), some (.inl (some 0, 0)), some (.inl (some 1, 0)), none], [], [((34, 5), (some 2, 0)), ((38, 0), (some 3, 0)), ((47, 3), (some 4, 0)), ((38, 1), (some 5, 0)), ((3, 11), (some 6, 0)), ((5, 0), (some 7, 0)), ((3, 9), (some 8, 0))]), ([0, (-2)], 16))]) (fuel := 4000) ⟨lkX3.1, lkX3.2, fa_cons (⟨cs_X3_41, hh_J7_fill_d0a16_0⟩) (fa_cons (⟨⟨1, cv_X3_75, rfl⟩, hh_X6_isAlive_0⟩) (fa_cons (⟨⟨3, cv_X3_82, rfl⟩, hh_X3_weighWays_0⟩) (fa_cons (⟨⟨1, cv_X3_86, rfl⟩, hh_X3_addLife_0⟩) (fa_cons (⟨cs_X3_90, hh_X3_cellOf_0⟩) (fa_nil))))), na_copy⟩ (by decide +kernel) dtX3_prepare (by decide +kernel)
abbrev cc_X3_leastLoss_0 : scC := (qX3_leastLoss, 0, [], [.inr (.inr (.inl [34]))], [], [(2, ((-9223372036854775808), 9223372036854775807), [], [], [])], [])
set_option maxRecDepth 20000 in
abbrev xx_X3_leastLoss_0 : scX := (Tx, invX, lnX3, [], cc_X3_leastLoss_0)
set_option maxRecDepth 20000 in
theorem hh_X3_leastLoss_0 : scH Tx invX cc_X3_leastLoss_0 := scCheck_ok (X := xx_X3_leastLoss_0) (nodes := []) (fuel := 4000) ⟨lkX3.1, lkX3.2, fa_nil, na_copy⟩ (by decide +kernel) dtX3_leastLoss (by decide +kernel)
abbrev cc_X10_best_0 : scC := (qX10_best, 7, [((-2147483648), 2147483647), ((-2147483648), 2147483647)], [.inr (.inr (.inl [0])), .inl (some 0, 0), .inl (some 1, 0)], [], [(2, ((-9223372036854775808), 9223372036854775807), [], [], []), (4, (0, 0), [], [], [])], [(0, 16, 1), (26, 0, 24), (34, 5, 2), (35, 0, 2197), (36, 0, 8), (37, 0, 24), (38, 0, 3)])
set_option maxRecDepth 20000 in
abbrev xx_X10_best_0 : scX := (Tx, invX, lnX10, [(169, 0, 10, cc_nw9), (244, 0, 10, cc_X10_needPart_0), (253, 1, 0, cc_hand_termOf), (289, 0, 3, cc_X3_prepare_0), (293, 0, 3, cc_X3_leastLoss_0)], cc_X10_best_0)
set_option maxRecDepth 20000 in
theorem hh_X10_best_0 : scH Tx invX cc_X10_best_0 := scCheck_ok (X := xx_X10_best_0) (nodes := []) (fuel := 4000) ⟨lkX10.1, lkX10.2, fa_cons (⟨⟨3, cv_X10_169, rfl⟩, hh_nw9⟩) (fa_cons (⟨⟨1, cv_X10_244, rfl⟩, hh_X10_needPart_0⟩) (fa_cons (⟨cs_X10_253, hh_hand_termOf⟩) (fa_cons (⟨⟨2, cv_X10_289, rfl⟩, hh_X3_prepare_0⟩) (fa_cons (⟨⟨0, cv_X10_293, rfl⟩, hh_X3_leastLoss_0⟩) (fa_nil))))), na_copy⟩ (by decide +kernel) dtX10_best (by decide +kernel)
