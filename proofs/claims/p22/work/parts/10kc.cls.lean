abbrev cc_X10_piecesWrongBy_0 : scC := (qX10_piecesWrongBy, 3, [(0, 65)], [.inr (.inr (.inl [0])), .inl (some 0, 0)], [], [(1, ((-2147483648), 2147483647), [], [], [])], [(26, 0, 24)])
set_option maxRecDepth 20000 in
abbrev xx_X10_piecesWrongBy_0 : scX := (Tx, invX, lnX10, [(229, 0, 0, cc_X0_wrongWhen_0)], cc_X10_piecesWrongBy_0)
set_option maxRecDepth 20000 in
theorem hh_X10_piecesWrongBy_0 : scH Tx invX cc_X10_piecesWrongBy_0 := scCheck_ok (X := xx_X10_piecesWrongBy_0) (nodes := [(4, ([(0, 65), ((-2147483648), 2147483647), (0, 8), ((-2147483648), 2147483647), (0, 8)], [some (.inr (.inr (.inl [0]))), some (.inl (some 0, 0)), some (.inl (some 1, 0)), some (.inl (some 2, 0)), none], [], [((48, 0), (some 3, 0)), ((3, 9), (some 4, 0))]), ([0, 0, (-2)], 16))]) (fuel := 4000) ⟨lqX10, fa_cons (⟨⟨4, _, pcv_X10_229, rfl⟩, hh_X0_wrongWhen_0⟩) (fa_nil)⟩ dtX10_piecesWrongBy (by decide +kernel)
abbrev cc_X10_stale_0 : scC := (qX10_stale, 4, [((-2147483648), 2147483647)], [.inr (.inr (.inl [0])), .inl (some 0, 0)], [], [(1, ((-2147483648), 2147483647), [], [], []), (4, (0, 0), [], [], [])], [(0, 16, 1), (26, 0, 24)])
set_option maxRecDepth 20000 in
abbrev xx_X10_stale_0 : scX := (Tx, invX, lnX10, [(169, 0, 10, cc_X10_needWithin_7), (241, 0, 10, cc_X10_piecesWrongBy_0)], cc_X10_stale_0)
set_option maxRecDepth 20000 in
theorem hh_X10_stale_0 : scH Tx invX cc_X10_stale_0 := scCheck_ok (X := xx_X10_stale_0) (nodes := []) (fuel := 4000) ⟨lqX10, fa_cons (⟨⟨3, _, pcv_X10_169, rfl⟩, hh_X10_needWithin_7⟩) (fa_cons (⟨⟨1, _, pcv_X10_241, rfl⟩, hh_X10_piecesWrongBy_0⟩) (fa_nil))⟩ dtX10_stale (by decide +kernel)
abbrev cc_X10_oldest_0 : scC := (qX10_oldest, 0, [], [.inr (.inr (.inl [0]))], [], [(1, ((-1), 7), [], [], [])], [])
set_option maxRecDepth 20000 in
abbrev xx_X10_oldest_0 : scX := (Tx, invX, lnX10, [], cc_X10_oldest_0)
set_option maxRecDepth 20000 in
theorem hh_X10_oldest_0 : scH Tx invX cc_X10_oldest_0 := scCheck_ok (X := xx_X10_oldest_0) (nodes := [(6, ([((-1), 7), ((-2147483648), 2147483647), (0, 8), ((-2147483648), 2147483647), (0, 8)], [some (.inr (.inr (.inl [0]))), some (.inl (some 0, 0)), some (.inl (some 1, 0)), some (.inl (some 2, 0))], [], [((48, 0), (some 3, 0)), ((3, 9), (some 4, 0))]), ([0, 0, (-2)], 16))]) (fuel := 4000) ⟨lqX10, fa_nil⟩ dtX10_oldest (by decide +kernel)
abbrev cc_X10_chain_0 : scC := (qX10_chain, 1, [((-2147483648), 2147483647), ((-2147483648), 2147483647)], [.inr (.inr (.inl [0])), .inl (some 0, 0), .inl (some 1, 0)], [], [(1, (0, 63), [], [], []), (4, (0, 0), [], [], []), (5, (0, 0), [], [], [])], [(0, 15, 2)])
set_option maxRecDepth 20000 in
abbrev xx_X10_chain_0 : scX := (Tx, invX, lnX10, [(169, 0, 10, cc_X10_needWithin_5), (182, 1, 0, cc_J6_bitCount_0f7a4_0), (197, 0, 10, cc_X10_needLife_0)], cc_X10_chain_0)
set_option maxRecDepth 20000 in
theorem hh_X10_chain_0 : scH Tx invX cc_X10_chain_0 := scCheck_ok (X := xx_X10_chain_0) (nodes := [(22, ([(0, 7), (0, 1), ((-2147483648), 2147483647), (0, 7), (0, 8), (0, 8)], [some (.inr (.inr (.inl [0]))), some (.inl (some 0, 0)), some (.inl (some 1, 0)), some (.inl (some 2, 0)), some (.inl (some 3, 0)), some (.inl (some 4, 0)), none], [], [((3, 9), (some 5, 0))]), ([0, 0, 0, 0, (-2)], 16))]) (fuel := 4000) ⟨lqX10, fa_cons (⟨⟨3, _, pcv_X10_169, rfl⟩, hh_X10_needWithin_5⟩) (fa_cons (⟨pcs_X10_182, hh_J6_bitCount_0f7a4_0⟩) (fa_cons (⟨⟨1, _, pcv_X10_197, rfl⟩, hh_X10_needLife_0⟩) (fa_nil)))⟩ dtX10_chain (by decide +kernel)
abbrev cc_X10_needPart_0 : scC := (qX10_needPart, 1, [((-2147483648), 2147483647)], [.inr (.inr (.inl [0])), .inl (some 0, 0)], [], [(0, (0, 0), [], [(0, (0, 1))], []), (4, (0, 0), [], [], [])], [(0, 16, 1)])
set_option maxRecDepth 20000 in
abbrev xx_X10_needPart_0 : scX := (Tx, invX, lnX10, [(169, 0, 10, cc_X10_needWithin_5)], cc_X10_needPart_0)
set_option maxRecDepth 20000 in
theorem hh_X10_needPart_0 : scH Tx invX cc_X10_needPart_0 := scCheck_ok (X := xx_X10_needPart_0) (nodes := []) (fuel := 4000) ⟨lqX10, fa_cons (⟨⟨3, _, pcv_X10_169, rfl⟩, hh_X10_needWithin_5⟩) (fa_nil)⟩ dtX10_needPart (by decide +kernel)
abbrev cc_X10_loss_0 : scC := (qX10_loss, 2, [((-2147483648), 2147483647)], [.inr (.inr (.inl [0])), .inl (some 0, 0)], [], [(2, ((-9223372036854775808), 9223372036854775807), [], [], []), (4, (0, 0), [], [], [])], [(0, 16, 1)])
set_option maxRecDepth 20000 in
abbrev xx_X10_loss_0 : scX := (Tx, invX, lnX10, [(244, 0, 10, cc_X10_needPart_0), (253, 1, 0, cc_hand_termOf)], cc_X10_loss_0)
set_option maxRecDepth 20000 in
theorem hh_X10_loss_0 : scH Tx invX cc_X10_loss_0 := scCheck_ok (X := xx_X10_loss_0) (nodes := []) (fuel := 4000) ⟨lqX10, fa_cons (⟨⟨1, _, pcv_X10_244, rfl⟩, hh_X10_needPart_0⟩) (fa_cons (⟨pcs_X10_253, hh_hand_termOf⟩) (fa_nil))⟩ dtX10_loss (by decide +kernel)
abbrev cc_X0_costWhen_0 : scC := (qX0_costWhen, 3, [(0, 7), (0, 7), ((-2147483648), 2147483647)], [.inr (.inr (.inl [32])), .inr (.inr (.inl [47])), .inl (some 0, 0), .inl (some 1, 0), .inl (some 2, 0)], [], [(2, ((-9223372036854775808), 9223372036854775807), [], [], [])], [(26, 0, 24)])
set_option maxRecDepth 20000 in
abbrev xx_X0_costWhen_0 : scX := (Tx, invX, lnX0, [(71, 0, 0, cc_X0_wrongWhen_0)], cc_X0_costWhen_0)
set_option maxRecDepth 20000 in
theorem hh_X0_costWhen_0 : scH Tx invX cc_X0_costWhen_0 := scCheck_ok (X := xx_X0_costWhen_0) (nodes := []) (fuel := 4000) ⟨lqX0, fa_cons (⟨⟨4, _, pcv_X0_71, rfl⟩, hh_X0_wrongWhen_0⟩) (fa_nil)⟩ dtX0_costWhen (by decide +kernel)
abbrev cc_X10_cost_0 : scC := (qX10_cost, 4, [((-2147483648), 2147483647), ((-2147483648), 2147483647)], [.inr (.inr (.inl [0])), .inl (some 0, 0), .inl (some 1, 0)], [], [(2, ((-9223372036854775808), 9223372036854775807), [], [], []), (4, (0, 0), [], [], []), (5, (0, 0), [], [], [])], [(0, 15, 2), (26, 0, 24)])
set_option maxRecDepth 20000 in
abbrev xx_X10_cost_0 : scX := (Tx, invX, lnX10, [(197, 0, 10, cc_X10_needLife_0), (215, 0, 6, cc_X6_isAlive_0), (244, 0, 10, cc_X10_needPart_0), (253, 1, 0, cc_hand_termOf), (257, 0, 0, cc_X0_costWhen_0)], cc_X10_cost_0)
set_option maxRecDepth 20000 in
theorem hh_X10_cost_0 : scH Tx invX cc_X10_cost_0 := scCheck_ok (X := xx_X10_cost_0) (nodes := []) (fuel := 4000) ⟨lqX10, fa_cons (⟨⟨1, _, pcv_X10_197, rfl⟩, hh_X10_needLife_0⟩) (fa_cons (⟨⟨1, _, pcv_X10_215, rfl⟩, hh_X6_isAlive_0⟩) (fa_cons (⟨⟨1, _, pcv_X10_244, rfl⟩, hh_X10_needPart_0⟩) (fa_cons (⟨pcs_X10_253, hh_hand_termOf⟩) (fa_cons (⟨⟨4, _, pcv_X10_257, rfl⟩, hh_X0_costWhen_0⟩) (fa_nil)))))⟩ dtX10_cost (by decide +kernel)
abbrev cc_X0_yearsWhen_1 : scC := (qX0_yearsWhen, 0, [(0, 7), ((-2147483648), 2147483647)], [.inr (.inr (.inl [32])), .inr (.inr (.inl [47])), .inl (some 0, 0), .inl (some 1, 0)], [], [(1, ((-2147483648), 2147483647), [], [], [])], [])
set_option maxRecDepth 20000 in
abbrev xx_X0_yearsWhen_1 : scX := (Tx, invX, lnX0, [], cc_X0_yearsWhen_1)
set_option maxRecDepth 20000 in
theorem hh_X0_yearsWhen_1 : scH Tx invX cc_X0_yearsWhen_1 := scCheck_ok (X := xx_X0_yearsWhen_1) (nodes := []) (fuel := 4000) ⟨lqX0, fa_nil⟩ dtX0_yearsWhen (by decide +kernel)
abbrev cc_X0_wrongWhen_1 : scC := (qX0_wrongWhen, 2, [(0, 7), ((-2147483648), 2147483647), ((-2147483648), 2147483647)], [.inr (.inr (.inl [32])), .inr (.inr (.inl [47])), .inl (some 0, 0), .inl (some 1, 0), .inl (some 2, 0)], [], [(1, (0, 64), [], [], [])], [(26, 0, 24)])
set_option maxRecDepth 20000 in
abbrev xx_X0_wrongWhen_1 : scX := (Tx, invX, lnX0, [(42, 0, 8, cc_X8_changesBetween_0), (46, 0, 0, cc_X0_yearsWhen_1), (53, 0, 0, cc_X0_signerDead_0), (57, 0, 1, cc_X1_outcome_0)], cc_X0_wrongWhen_1)
set_option maxRecDepth 20000 in
theorem hh_X0_wrongWhen_1 : scH Tx invX cc_X0_wrongWhen_1 := scCheck_ok (X := xx_X0_wrongWhen_1) (nodes := []) (fuel := 4000) ⟨lqX0, fa_cons (⟨⟨3, _, pcv_X0_42, rfl⟩, hh_X8_changesBetween_0⟩) (fa_cons (⟨⟨3, _, pcv_X0_46, rfl⟩, hh_X0_yearsWhen_1⟩) (fa_cons (⟨⟨2, _, pcv_X0_53, rfl⟩, hh_X0_signerDead_0⟩) (fa_cons (⟨⟨5, _, pcv_X0_57, rfl⟩, hh_X1_outcome_0⟩) (fa_nil))))⟩ dtX0_wrongWhen (by decide +kernel)
abbrev cc_X0_costWhen_1 : scC := (qX0_costWhen, 3, [(0, 7), ((-2147483648), 2147483647), ((-2147483648), 2147483647)], [.inr (.inr (.inl [32])), .inr (.inr (.inl [47])), .inl (some 0, 0), .inl (some 1, 0), .inl (some 2, 0)], [], [(2, ((-9223372036854775808), 9223372036854775807), [], [], [])], [(26, 0, 24)])
set_option maxRecDepth 20000 in
abbrev xx_X0_costWhen_1 : scX := (Tx, invX, lnX0, [(71, 0, 0, cc_X0_wrongWhen_1)], cc_X0_costWhen_1)
set_option maxRecDepth 20000 in
theorem hh_X0_costWhen_1 : scH Tx invX cc_X0_costWhen_1 := scCheck_ok (X := xx_X0_costWhen_1) (nodes := []) (fuel := 4000) ⟨lqX0, fa_cons (⟨⟨4, _, pcv_X0_71, rfl⟩, hh_X0_wrongWhen_1⟩) (fa_nil)⟩ dtX0_costWhen (by decide +kernel)
abbrev cc_X0_riskWhen_0 : scC := (qX0_riskWhen, 4, [((-2147483648), 2147483647)], [.inr (.inr (.inl [32])), .inr (.inr (.inl [47])), .inl (some 0, 0)], [], [(2, ((-9223372036854775808), 9223372036854775807), [], [], [])], [(26, 0, 24)])
set_option maxRecDepth 20000 in
abbrev xx_X0_riskWhen_0 : scX := (Tx, invX, lnX0, [(38, 0, 6, cc_X6_isAlive_0), (84, 0, 0, cc_X0_costWhen_1)], cc_X0_riskWhen_0)
set_option maxRecDepth 20000 in
theorem hh_X0_riskWhen_0 : scH Tx invX cc_X0_riskWhen_0 := scCheck_ok (X := xx_X0_riskWhen_0) (nodes := [(5, ([((-2147483648), 2147483647), (0, 8), (0, 64), ((-2147483648), 2147483647), (0, 8)], [some (.inr (.inr (.inl [32]))), some (.inr (.inr (.inl [47]))), some (.inl (some 0, 0)), some (.inr (.inl ((-9223372036854775808), 9223372036854775807))), none, some (.inl (some 1, 0)), none, none], [], [((5, 0), (some 2, 0)), ((48, 0), (some 3, 0)), ((3, 9), (some 4, 0))]), ([0, (-2)], 16))]) (fuel := 4000) ⟨lqX0, fa_cons (⟨⟨1, _, pcv_X0_38, rfl⟩, hh_X6_isAlive_0⟩) (fa_cons (⟨⟨4, _, pcv_X0_84, rfl⟩, hh_X0_costWhen_1⟩) (fa_nil))⟩ dtX0_riskWhen (by decide +kernel)
abbrev cc_X10_risk_0 : scC := (qX10_risk, 5, [((-2147483648), 2147483647)], [.inr (.inr (.inl [0])), .inl (some 0, 0)], [], [(2, ((-9223372036854775808), 9223372036854775807), [], [], []), (4, (0, 0), [], [], [])], [(0, 16, 1), (26, 0, 24)])
set_option maxRecDepth 20000 in
abbrev xx_X10_risk_0 : scX := (Tx, invX, lnX10, [(244, 0, 10, cc_X10_needPart_0), (253, 1, 0, cc_hand_termOf), (261, 0, 0, cc_X0_riskWhen_0)], cc_X10_risk_0)
set_option maxRecDepth 20000 in
theorem hh_X10_risk_0 : scH Tx invX cc_X10_risk_0 := scCheck_ok (X := xx_X10_risk_0) (nodes := []) (fuel := 4000) ⟨lqX10, fa_cons (⟨⟨1, _, pcv_X10_244, rfl⟩, hh_X10_needPart_0⟩) (fa_cons (⟨pcs_X10_253, hh_hand_termOf⟩) (fa_cons (⟨⟨2, _, pcv_X10_261, rfl⟩, hh_X0_riskWhen_0⟩) (fa_nil)))⟩ dtX10_risk (by decide +kernel)
abbrev cc_X0_hoursFor_0 : scC := (qX0_hoursFor, 2, [(0, 7)], [.inr (.inr (.inl [32])), .inr (.inr (.inl [47])), .inl (some 0, 0)], [], [(1, (0, 9), [], [], [])], [])
set_option maxRecDepth 20000 in
abbrev xx_X0_hoursFor_0 : scX := (Tx, invX, lnX0, [(91, 0, 8, cc_X8_renewHours_0)], cc_X0_hoursFor_0)
set_option maxRecDepth 20000 in
theorem hh_X0_hoursFor_0 : scH Tx invX cc_X0_hoursFor_0 := scCheck_ok (X := xx_X0_hoursFor_0) (nodes := []) (fuel := 4000) ⟨lqX0, fa_cons (⟨⟨1, _, pcv_X0_91, rfl⟩, hh_X8_renewHours_0⟩) (fa_nil)⟩ dtX0_hoursFor (by decide +kernel)
abbrev cc_X0_canBePut_0 : scC := (qX0_canBePut, 1, [(0, 7)], [.inr (.inr (.inl [32])), .inr (.inr (.inl [47])), .inl (some 0, 0)], [], [(1, (0, 1), [], [], [])], [])
set_option maxRecDepth 20000 in
abbrev xx_X0_canBePut_0 : scX := (Tx, invX, lnX0, [(38, 0, 6, cc_X6_isAlive_0)], cc_X0_canBePut_0)
set_option maxRecDepth 20000 in
theorem hh_X0_canBePut_0 : scH Tx invX cc_X0_canBePut_0 := scCheck_ok (X := xx_X0_canBePut_0) (nodes := []) (fuel := 4000) ⟨lqX0, fa_cons (⟨⟨1, _, pcv_X0_38, rfl⟩, hh_X6_isAlive_0⟩) (fa_nil)⟩ dtX0_canBePut (by decide +kernel)
abbrev cc_X0_savedRisk_0 : scC := (qX0_savedRisk, 4, [(0, 7)], [.inr (.inr (.inl [32])), .inr (.inr (.inl [47])), .inl (some 0, 0)], [], [(2, ((-9223372036854775808), 9223372036854775807), [], [], [])], [(26, 0, 24)])
set_option maxRecDepth 20000 in
abbrev xx_X0_savedRisk_0 : scX := (Tx, invX, lnX0, [(84, 0, 0, cc_X0_costWhen_0), (95, 0, 0, cc_X0_canBePut_0)], cc_X0_savedRisk_0)
set_option maxRecDepth 20000 in
theorem hh_X0_savedRisk_0 : scH Tx invX cc_X0_savedRisk_0 := scCheck_ok (X := xx_X0_savedRisk_0) (nodes := []) (fuel := 4000) ⟨lqX0, fa_cons (⟨⟨4, _, pcv_X0_84, rfl⟩, hh_X0_costWhen_0⟩) (fa_cons (⟨⟨2, _, pcv_X0_95, rfl⟩, hh_X0_canBePut_0⟩) (fa_nil))⟩ dtX0_savedRisk (by decide +kernel)
abbrev cc_X10_saves_0 : scC := (qX10_saves, 5, [((-2147483648), 2147483647), ((-2147483648), 2147483647)], [.inr (.inr (.inl [0])), .inl (some 0, 0), .inl (some 1, 0)], [], [(2, ((-9223372036854775808), 9223372036854775807), [], [], []), (4, (0, 0), [], [], []), (5, (0, 0), [], [], [])], [(0, 15, 2), (26, 0, 24)])
set_option maxRecDepth 20000 in
abbrev xx_X10_saves_0 : scX := (Tx, invX, lnX10, [(197, 0, 10, cc_X10_needLife_0), (244, 0, 10, cc_X10_needPart_0), (253, 1, 0, cc_hand_termOf), (267, 0, 0, cc_X0_hoursFor_0), (270, 0, 0, cc_X0_savedRisk_0)], cc_X10_saves_0)
set_option maxRecDepth 20000 in
theorem hh_X10_saves_0 : scH Tx invX cc_X10_saves_0 := scCheck_ok (X := xx_X10_saves_0) (nodes := []) (fuel := 4000) ⟨lqX10, fa_cons (⟨⟨1, _, pcv_X10_197, rfl⟩, hh_X10_needLife_0⟩) (fa_cons (⟨⟨1, _, pcv_X10_244, rfl⟩, hh_X10_needPart_0⟩) (fa_cons (⟨pcs_X10_253, hh_hand_termOf⟩) (fa_cons (⟨⟨2, _, pcv_X10_267, rfl⟩, hh_X0_hoursFor_0⟩) (fa_cons (⟨⟨2, _, pcv_X10_270, rfl⟩, hh_X0_savedRisk_0⟩) (fa_nil)))))⟩ dtX10_saves (by decide +kernel)
abbrev cc_X0_firstOf_0 : scC := (qX0_firstOf, 3, [(12, 12)], [.inr (.inr (.inl [32])), .inr (.inr (.inl [47])), .inr (.inr (.inl [33])), .inl (some 0, 0)], [], [(1, ((-1), 7), [], [], [])], [])
set_option maxRecDepth 20000 in
abbrev xx_X0_firstOf_0 : scX := (Tx, invX, lnX0, [(113, 0, 0, cc_X0_hoursFor_0)], cc_X0_firstOf_0)
set_option maxRecDepth 20000 in
theorem hh_X0_firstOf_0 : scH Tx invX cc_X0_firstOf_0 := scCheck_ok (X := xx_X0_firstOf_0) (nodes := [(12, ([(12, 12), ((-1), 7), (0, 9), (0, 8), (0, 8)], [some (.inr (.inr (.inl [32]))), some (.inr (.inr (.inl [47]))), some (.inr (.inr (.inl [33]))), some (.inl (some 0, 0)), some (.inl (some 1, 0)), some (.inr (.inl ((-9223372036854775808), 9223372036854775807))), none, some (.inl (some 2, 0)), some (.inl (some 3, 0)), none], [], [((3, 9), (some 4, 0))]), ([0, 0, 0, (-2)], 16))]) (fuel := 4000) ⟨lqX0, fa_cons (⟨⟨2, _, pcv_X0_113, rfl⟩, hh_X0_hoursFor_0⟩) (fa_nil)⟩ dtX0_firstOf (by decide +kernel)
abbrev cc_X0_firstOfAll_0 : scC := (qX0_firstOfAll, 5, [], [.inr (.inr (.inl [32])), .inr (.inr (.inl [47]))], [], [(1, ((-1), 7), [], [], [])], [(26, 0, 24), (33, 0, 8)])
set_option maxRecDepth 20000 in
abbrev xx_X0_firstOfAll_0 : scX := (Tx, invX, lnX0, [(105, 0, 0, cc_X0_savedRisk_0), (109, 0, 0, cc_X0_firstOf_0)], cc_X0_firstOfAll_0)
set_option maxRecDepth 20000 in
theorem hh_X0_firstOfAll_0 : scH Tx invX cc_X0_firstOfAll_0 := scCheck_ok (X := xx_X0_firstOfAll_0) (nodes := [(2, ([(0, 8), (0, 8)], [some (.inr (.inr (.inl [32]))), some (.inr (.inr (.inl [47]))), some (.inl (some 0, 0))], [], [((3, 9), (some 1, 0))]), ([(-2)], 16))]) (fuel := 4000) ⟨lqX0, fa_cons (⟨⟨2, _, pcv_X0_105, rfl⟩, hh_X0_savedRisk_0⟩) (fa_cons (⟨⟨3, _, pcv_X0_109, rfl⟩, hh_X0_firstOf_0⟩) (fa_nil))⟩ dtX0_firstOfAll (by decide +kernel)
abbrev cc_X10_first_0 : scC := (qX10_first, 6, [], [.inr (.inr (.inl [0]))], [], [(1, ((-1), 7), [], [], [])], [(26, 0, 24), (33, 0, 8)])
set_option maxRecDepth 20000 in
abbrev xx_X10_first_0 : scX := (Tx, invX, lnX10, [(273, 0, 0, cc_X0_firstOfAll_0)], cc_X10_first_0)
set_option maxRecDepth 20000 in
theorem hh_X10_first_0 : scH Tx invX cc_X10_first_0 := scCheck_ok (X := xx_X10_first_0) (nodes := []) (fuel := 4000) ⟨lqX10, fa_cons (⟨⟨1, _, pcv_X10_273, rfl⟩, hh_X0_firstOfAll_0⟩) (fa_nil)⟩ dtX10_first (by decide +kernel)
abbrev cc_X10_aheadMost_0 : scC := (qX10_aheadMost, 1, [], [.inr (.inr (.inl [0]))], [], [(1, (0, 60), [], [], [])], [])
set_option maxRecDepth 20000 in
abbrev xx_X10_aheadMost_0 : scX := (Tx, invX, lnX10, [], cc_X10_aheadMost_0)
set_option maxRecDepth 20000 in
theorem hh_X10_aheadMost_0 : scH Tx invX cc_X10_aheadMost_0 := scCheck_ok (X := xx_X10_aheadMost_0) (nodes := []) (fuel := 4000) ⟨lqX10, fa_nil⟩ dtX10_aheadMost (by decide +kernel)
abbrev cc_X10_needWithin_8 : scC := (qX10_needWithin, 0, [((-2147483648), 2147483647), (0, 0), (0, 60)], [.inr (.inr (.inl [0])), .inl (some 0, 0), .inl (some 1, 0), .inl (some 2, 0)], [], [(0, (0, 0), [], [(0, (0, 60))], []), (4, (0, 0), [], [], [])], [(0, 16, 1)])
set_option maxRecDepth 20000 in
abbrev xx_X10_needWithin_8 : scX := (Tx, invX, lnX10, [], cc_X10_needWithin_8)
set_option maxRecDepth 20000 in
theorem hh_X10_needWithin_8 : scH Tx invX cc_X10_needWithin_8 := scCheck_ok (X := xx_X10_needWithin_8) (nodes := []) (fuel := 4000) ⟨lqX10, fa_nil⟩ dtX10_needWithin (by decide +kernel)
abbrev cc_X10_ahead_0 : scC := (qX10_ahead, 5, [((-2147483648), 2147483647), ((-2147483648), 2147483647)], [.inr (.inr (.inl [0])), .inl (some 0, 0), .inl (some 1, 0)], [], [(2, ((-9223372036854775808), 9223372036854775807), [], [], []), (4, (0, 0), [], [], [])], [(0, 16, 1), (26, 0, 24)])
set_option maxRecDepth 20000 in
abbrev xx_X10_ahead_0 : scX := (Tx, invX, lnX10, [(169, 0, 10, cc_X10_needWithin_8), (244, 0, 10, cc_X10_needPart_0), (253, 1, 0, cc_hand_termOf), (261, 0, 0, cc_X0_riskWhen_0), (277, 0, 10, cc_X10_aheadMost_0)], cc_X10_ahead_0)
set_option maxRecDepth 20000 in
theorem hh_X10_ahead_0 : scH Tx invX cc_X10_ahead_0 := scCheck_ok (X := xx_X10_ahead_0) (nodes := []) (fuel := 4000) ⟨lqX10, fa_cons (⟨⟨3, _, pcv_X10_169, rfl⟩, hh_X10_needWithin_8⟩) (fa_cons (⟨⟨1, _, pcv_X10_244, rfl⟩, hh_X10_needPart_0⟩) (fa_cons (⟨pcs_X10_253, hh_hand_termOf⟩) (fa_cons (⟨⟨2, _, pcv_X10_261, rfl⟩, hh_X0_riskWhen_0⟩) (fa_cons (⟨⟨0, _, pcv_X10_277, rfl⟩, hh_X10_aheadMost_0⟩) (fa_nil)))))⟩ dtX10_ahead (by decide +kernel)
abbrev cc_X10_worst_0 : scC := (qX10_worst, 5, [], [.inr (.inr (.inl [0]))], [], [(1, (0, 2147483647), [], [], [])], [(26, 0, 24)])
set_option maxRecDepth 20000 in
abbrev xx_X10_worst_0 : scX := (Tx, invX, lnX10, [(261, 0, 0, cc_X0_riskWhen_0), (277, 0, 10, cc_X10_aheadMost_0)], cc_X10_worst_0)
set_option maxRecDepth 20000 in
theorem hh_X10_worst_0 : scH Tx invX cc_X10_worst_0 := scCheck_ok (X := xx_X10_worst_0) (nodes := [(9, ([(0, 2147483647), (0, 61)], [some (.inr (.inr (.inl [0]))), some (.inl (some 0, 0)), some (.inr (.inl ((-9223372036854775808), 9223372036854775807))), none, some (.inl (some 1, 0)), none, none], [], []), ([0, (-2)], 122))]) (fuel := 4000) ⟨lqX10, fa_cons (⟨⟨2, _, pcv_X10_261, rfl⟩, hh_X0_riskWhen_0⟩) (fa_cons (⟨⟨0, _, pcv_X10_277, rfl⟩, hh_X10_aheadMost_0⟩) (fa_nil))⟩ dtX10_worst (by decide +kernel)
abbrev cc_X10_lives_0 : scC := (qX10_lives, 2, [((-2147483648), 2147483647), ((-2147483648), 2147483647), ((-2147483648), 2147483647)], [.inr (.inr (.inl [0])), .inl (some 0, 0), .inl (some 1, 0), .inl (some 2, 0)], [], [(2, ((-9223372036854775808), 9223372036854775807), [], [], []), (4, (0, 0), [], [], []), (5, (0, 0), [], [], [])], [(0, 15, 2)])
set_option maxRecDepth 20000 in
abbrev xx_X10_lives_0 : scX := (Tx, invX, lnX10, [(169, 0, 10, cc_X10_needWithin_1), (197, 0, 10, cc_X10_needLife_0), (215, 0, 6, cc_X6_isAlive_0), (244, 0, 10, cc_X10_needPart_0), (253, 1, 0, cc_hand_termOf)], cc_X10_lives_0)
set_option maxRecDepth 20000 in
theorem hh_X10_lives_0 : scH Tx invX cc_X10_lives_0 := scCheck_ok (X := xx_X10_lives_0) (nodes := [(45, ([(0, 7), (0, 8), (0, 1), (0, 8)], [some (.inr (.inr (.inl [0]))), some (.inl (some 0, 0)), some (.inl (some 1, 0)), some (.inl (some 2, 0)), some (.inr (.inl ((-9223372036854775808), 9223372036854775807))), none, some (.inl (some 3, 0))], [], []), ([0, 0, 0, (-2)], 16))]) (fuel := 4000) ⟨lqX10, fa_cons (⟨⟨3, _, pcv_X10_169, rfl⟩, hh_X10_needWithin_1⟩) (fa_cons (⟨⟨1, _, pcv_X10_197, rfl⟩, hh_X10_needLife_0⟩) (fa_cons (⟨⟨1, _, pcv_X10_215, rfl⟩, hh_X6_isAlive_0⟩) (fa_cons (⟨⟨1, _, pcv_X10_244, rfl⟩, hh_X10_needPart_0⟩) (fa_cons (⟨pcs_X10_253, hh_hand_termOf⟩) (fa_nil)))))⟩ dtX10_lives (by decide +kernel)
abbrev cc_X10_due_0 : scC := (qX10_due, 3, [((-2147483648), 2147483647), ((-2147483648), 2147483647)], [.inr (.inr (.inl [0])), .inl (some 0, 0), .inl (some 1, 0)], [], [(1, ((-1), 60), [], [], []), (4, (0, 0), [], [], []), (5, (0, 0), [], [], [])], [(0, 15, 2), (26, 0, 24)])
set_option maxRecDepth 20000 in
abbrev xx_X10_due_0 : scX := (Tx, invX, lnX10, [(169, 0, 10, cc_X10_needWithin_7), (197, 0, 10, cc_X10_needLife_0), (229, 0, 0, cc_X0_wrongWhen_0), (229, 0, 0, cc_X0_wrongWhen_1), (277, 0, 10, cc_X10_aheadMost_0)], cc_X10_due_0)
set_option maxRecDepth 20000 in
theorem hh_X10_due_0 : scH Tx invX cc_X10_due_0 := scCheck_ok (X := xx_X10_due_0) (nodes := [(36, ([(0, 7), (0, 65), ((-2147483648), 2147483647), (0, 61)], [some (.inr (.inr (.inl [0]))), some (.inl (some 0, 0)), some (.inl (some 1, 0)), some (.inl (some 2, 0)), some (.inl (some 3, 0))], [], []), ([0, 0, 0, (-2)], 122))]) (fuel := 4000) ⟨lqX10, fa_cons (⟨⟨3, _, pcv_X10_169, rfl⟩, hh_X10_needWithin_7⟩) (fa_cons (⟨⟨1, _, pcv_X10_197, rfl⟩, hh_X10_needLife_0⟩) (fa_cons (⟨⟨4, _, pcv_X10_229, rfl⟩, hh_X0_wrongWhen_0⟩) (fa_cons (⟨⟨4, _, pcv_X10_229, rfl⟩, hh_X0_wrongWhen_1⟩) (fa_cons (⟨⟨0, _, pcv_X10_277, rfl⟩, hh_X10_aheadMost_0⟩) (fa_nil)))))⟩ dtX10_due (by decide +kernel)
abbrev cc_X8_nextChange_0 : scC := (qX8_nextChange, 0, [((-2147483648), 2147483647), ((-2147483648), 2147483647)], [.inr (.inr (.inl [3])), .inl (some 0, 0), .inl (some 1, 0)], [], [(1, ((-1), 60), [], [], [])], [])
set_option maxRecDepth 20000 in
abbrev xx_X8_nextChange_0 : scX := (Tx, invX, lnX8, [], cc_X8_nextChange_0)
set_option maxRecDepth 20000 in
theorem hh_X8_nextChange_0 : scH Tx invX cc_X8_nextChange_0 := scCheck_ok (X := xx_X8_nextChange_0) (nodes := [(5, ([((-2147483648), 2147483647), ((-2147483648), 2147483647), ((-1), 60), (0, 24), (0, 60), (0, 7), (0, 24)], [some (.inr (.inr (.inl [3]))), some (.inl (some 0, 0)), some (.inl (some 1, 0)), some (.inl (some 2, 0)), some (.inl (some 3, 0)), none], [], [((12, 0), (some 4, 0)), ((10, 0), (some 5, 0)), ((3, 10), (some 6, 0))]), ([0, 0, 0, (-2)], 48))]) (fuel := 4000) ⟨lqX8, fa_nil⟩ dtX8_nextChange (by decide +kernel)
abbrev cc_X10_news_0 : scC := (qX10_news, 1, [((-2147483648), 2147483647)], [.inr (.inr (.inl [0])), .inl (some 0, 0)], [], [(1, ((-1), 60), [], [], []), (5, (0, 0), [], [], [])], [(0, 15, 1)])
set_option maxRecDepth 20000 in
abbrev xx_X10_news_0 : scX := (Tx, invX, lnX10, [(197, 0, 10, cc_X10_needLife_0), (283, 0, 8, cc_X8_nextChange_0)], cc_X10_news_0)
set_option maxRecDepth 20000 in
theorem hh_X10_news_0 : scH Tx invX cc_X10_news_0 := scCheck_ok (X := xx_X10_news_0) (nodes := []) (fuel := 4000) ⟨lqX10, fa_cons (⟨⟨1, _, pcv_X10_197, rfl⟩, hh_X10_needLife_0⟩) (fa_cons (⟨⟨2, _, pcv_X10_283, rfl⟩, hh_X8_nextChange_0⟩) (fa_nil))⟩ dtX10_news (by decide +kernel)
abbrev cc_X0_lossAhead_0 : scC := (qX0_lossAhead, 4, [(0, 7), (0, 7), (0, 7)], [.inr (.inr (.inl [32])), .inr (.inr (.inl [47])), .inl (some 0, 0), .inl (some 1, 0), .inl (some 2, 0)], [], [(2, ((-9223372036854775808), 9223372036854775807), [], [], [])], [(26, 0, 24)])
set_option maxRecDepth 20000 in
abbrev xx_X0_lossAhead_0 : scX := (Tx, invX, lnX0, [(84, 0, 0, cc_X0_costWhen_0)], cc_X0_lossAhead_0)
set_option maxRecDepth 20000 in
theorem hh_X0_lossAhead_0 : scH Tx invX cc_X0_lossAhead_0 := scCheck_ok (X := xx_X0_lossAhead_0) (nodes := [(29, ([(0, 7), (0, 7), (0, 7), ((-2147483648), 2147483647), (0, 7)], [some (.inr (.inr (.inl [32]))), some (.inr (.inr (.inl [47]))), some (.inl (some 0, 0)), some (.inl (some 1, 0)), some (.inl (some 2, 0)), some (.inr (.inl (0, 64))), none, some (.inr (.inl ((-9223372036854775808), 9223372036854775807))), none, some (.inr (.inl ((-9223372036854775808), 9223372036854775807))), none, some (.inl (some 3, 0)), some (.inl (some 4, 0))], [], []), ([0, 0, 0, 0, (-2)], 14))]) (fuel := 4000) ⟨lqX0, fa_cons (⟨⟨4, _, pcv_X0_84, rfl⟩, hh_X0_costWhen_0⟩) (fa_nil)⟩ dtX0_lossAhead (by decide +kernel)
abbrev cc_X10_expects_0 : scC := (qX10_expects, 5, [((-2147483648), 2147483647), ((-2147483648), 2147483647), ((-2147483648), 2147483647)], [.inr (.inr (.inl [0])), .inl (some 0, 0), .inl (some 1, 0), .inl (some 2, 0)], [], [(2, ((-9223372036854775808), 9223372036854775807), [], [], []), (4, (0, 0), [], [], []), (5, (0, 0), [], [], [])], [(0, 15, 2), (26, 0, 24)])
set_option maxRecDepth 20000 in
abbrev xx_X10_expects_0 : scX := (Tx, invX, lnX10, [(169, 0, 10, cc_X10_needWithin_2), (197, 0, 10, cc_X10_needLife_0), (215, 0, 6, cc_X6_isAlive_0), (244, 0, 10, cc_X10_needPart_0), (253, 1, 0, cc_hand_termOf), (286, 0, 0, cc_X0_lossAhead_0)], cc_X10_expects_0)
set_option maxRecDepth 20000 in
theorem hh_X10_expects_0 : scH Tx invX cc_X10_expects_0 := scCheck_ok (X := xx_X10_expects_0) (nodes := []) (fuel := 4000) ⟨lqX10, fa_cons (⟨⟨3, _, pcv_X10_169, rfl⟩, hh_X10_needWithin_2⟩) (fa_cons (⟨⟨1, _, pcv_X10_197, rfl⟩, hh_X10_needLife_0⟩) (fa_cons (⟨⟨1, _, pcv_X10_215, rfl⟩, hh_X6_isAlive_0⟩) (fa_cons (⟨⟨1, _, pcv_X10_244, rfl⟩, hh_X10_needPart_0⟩) (fa_cons (⟨pcs_X10_253, hh_hand_termOf⟩) (fa_cons (⟨⟨4, _, pcv_X10_286, rfl⟩, hh_X0_lossAhead_0⟩) (fa_nil))))))⟩ dtX10_expects (by decide +kernel)
abbrev cc_X10_needWithin_9 : scC := (qX10_needWithin, 0, [((-2147483648), 2147483647), (1, 1), (3, 3)], [.inr (.inr (.inl [0])), .inl (some 0, 0), .inl (some 1, 0), .inl (some 2, 0)], [], [(0, (0, 0), [], [(0, (1, 3))], []), (4, (0, 0), [], [], [])], [(0, 16, 1)])
set_option maxRecDepth 20000 in
abbrev xx_X10_needWithin_9 : scX := (Tx, invX, lnX10, [], cc_X10_needWithin_9)
set_option maxRecDepth 20000 in
theorem hh_X10_needWithin_9 : scH Tx invX cc_X10_needWithin_9 := scCheck_ok (X := xx_X10_needWithin_9) (nodes := []) (fuel := 4000) ⟨lqX10, fa_nil⟩ dtX10_needWithin (by decide +kernel)
abbrev cc_J7_fill_d0a16_0 : scC := (qJ7_fill_d0a16, 0, [], [.inr (.inr (.inl [35])), .inr (.inl ((-9223372036854775808), 9223372036854775807))], [], [(0, (0, 0), [], [], [])], [(35, 0, 2197)])
set_option maxRecDepth 20000 in
abbrev xx_J7_fill_d0a16_0 : scX := (Tx, invX, lnJ7, [], cc_J7_fill_d0a16_0)
set_option maxRecDepth 20000 in
theorem hh_J7_fill_d0a16_0 : scH Tx invX cc_J7_fill_d0a16_0 := scCheck_ok (X := xx_J7_fill_d0a16_0) (nodes := [(6, ([(0, 2197), (2197, 2197)], [some (.inr (.inr (.inl [35]))), some (.inr (.inl ((-9223372036854775808), 9223372036854775807))), none, some (.inl (some 0, 0)), some (.inl (some 1, 0))], [], []), ([(-2)], 4394))]) (fuel := 4000) ⟨lqJ7, fa_nil⟩ dtJ7_fill_d0a16 (by decide +kernel)
abbrev cc_X3_hoursAtAge_0 : scC := (qX3_hoursAtAge, 2, [(0, 7), ((-2147483648), 2147483647)], [.inr (.inr (.inl [34])), .inl (some 0, 0), .inl (some 1, 0)], [], [(1, (0, 99), [], [], [])], [])
set_option maxRecDepth 20000 in
abbrev xx_X3_hoursAtAge_0 : scX := (Tx, invX, lnX3, [(106, 0, 8, cc_X8_renewHours_0)], cc_X3_hoursAtAge_0)
set_option maxRecDepth 20000 in
theorem hh_X3_hoursAtAge_0 : scH Tx invX cc_X3_hoursAtAge_0 := scCheck_ok (X := xx_X3_hoursAtAge_0) (nodes := []) (fuel := 4000) ⟨lqX3, fa_cons (⟨⟨1, _, pcv_X3_106, rfl⟩, hh_X8_renewHours_0⟩) (fa_nil)⟩ dtX3_hoursAtAge (by decide +kernel)
abbrev cc_X3_keyShift_0 : scC := (qX3_keyShift, 0, [(0, 0)], [.inl (some 0, 0)], [], [(1, (16, 16), [], [], [])], [])
set_option maxRecDepth 20000 in
abbrev xx_X3_keyShift_0 : scX := (Tx, invX, lnX3, [], cc_X3_keyShift_0)
set_option maxRecDepth 20000 in
theorem hh_X3_keyShift_0 : scH Tx invX cc_X3_keyShift_0 := scCheck_ok (X := xx_X3_keyShift_0) (nodes := []) (fuel := 4000) ⟨lqX3, fa_nil⟩ dtX3_keyShift (by decide +kernel)
abbrev cc_X3_keyShift_1 : scC := (qX3_keyShift, 0, [(0, 1)], [.inl (some 0, 0)], [], [(1, (8, 16), [], [], [])], [])
set_option maxRecDepth 20000 in
abbrev xx_X3_keyShift_1 : scX := (Tx, invX, lnX3, [], cc_X3_keyShift_1)
set_option maxRecDepth 20000 in
theorem hh_X3_keyShift_1 : scH Tx invX cc_X3_keyShift_1 := scCheck_ok (X := xx_X3_keyShift_1) (nodes := []) (fuel := 4000) ⟨lqX3, fa_nil⟩ dtX3_keyShift (by decide +kernel)
abbrev cc_X3_keyShift_2 : scC := (qX3_keyShift, 0, [(0, 2)], [.inl (some 0, 0)], [], [(1, (0, 16), [], [], [])], [])
set_option maxRecDepth 20000 in
abbrev xx_X3_keyShift_2 : scX := (Tx, invX, lnX3, [], cc_X3_keyShift_2)
set_option maxRecDepth 20000 in
theorem hh_X3_keyShift_2 : scH Tx invX cc_X3_keyShift_2 := scCheck_ok (X := xx_X3_keyShift_2) (nodes := []) (fuel := 4000) ⟨lqX3, fa_nil⟩ dtX3_keyShift (by decide +kernel)
abbrev cc_X0_lossAhead_1 : scC := (qX0_lossAhead, 4, [(0, 7), ((-2147483648), 2147483647), (0, 7)], [.inr (.inr (.inl [32])), .inr (.inr (.inl [47])), .inl (some 0, 0), .inl (some 1, 0), .inl (some 2, 0)], [], [(2, ((-9223372036854775808), 9223372036854775807), [], [], [])], [(26, 0, 24)])
set_option maxRecDepth 20000 in
abbrev xx_X0_lossAhead_1 : scX := (Tx, invX, lnX0, [(84, 0, 0, cc_X0_costWhen_0), (84, 0, 0, cc_X0_costWhen_1)], cc_X0_lossAhead_1)
set_option maxRecDepth 20000 in
theorem hh_X0_lossAhead_1 : scH Tx invX cc_X0_lossAhead_1 := scCheck_ok (X := xx_X0_lossAhead_1) (nodes := [(29, ([(0, 7), ((-2147483648), 2147483647), (0, 7), ((-2147483648), 2147483647), (0, 2147483647)], [some (.inr (.inr (.inl [32]))), some (.inr (.inr (.inl [47]))), some (.inl (some 0, 0)), some (.inl (some 1, 0)), some (.inl (some 2, 0)), some (.inr (.inl (0, 64))), none, some (.inr (.inl ((-9223372036854775808), 9223372036854775807))), none, some (.inr (.inl ((-9223372036854775808), 9223372036854775807))), none, some (.inl (some 3, 0)), some (.inl (some 4, 0))], [], []), ([0, 0, 0, 0, (-2)], 4294967294))]) (fuel := 4000) ⟨lqX0, fa_cons (⟨⟨4, _, pcv_X0_84, rfl⟩, hh_X0_costWhen_0⟩) (fa_cons (⟨⟨4, _, pcv_X0_84, rfl⟩, hh_X0_costWhen_1⟩) (fa_nil))⟩ dtX0_lossAhead (by decide +kernel)
abbrev cc_X3_weighWays_0 : scC := (qX3_weighWays, 5, [(0, 7), ((-2147483648), 2147483647)], [.inr (.inr (.inl [34])), .inr (.inr (.inl [47])), .inl (some 0, 0), .inl (some 1, 0)], [], [(0, (0, 0), [], [], [])], [(26, 0, 24), (36, 0, 8), (37, 0, 24)])
set_option maxRecDepth 20000 in
abbrev xx_X3_weighWays_0 : scX := (Tx, invX, lnX3, [(37, 1, 0, cc_X3_keyShift_0), (37, 1, 0, cc_X3_keyShift_1), (37, 1, 0, cc_X3_keyShift_2), (97, 0, 3, cc_X3_hoursAtAge_0), (100, 0, 0, cc_X0_lossAhead_1)], cc_X3_weighWays_0)
set_option maxRecDepth 20000 in
theorem hh_X3_weighWays_0 : scH Tx invX cc_X3_weighWays_0 := scCheck_ok (X := xx_X3_weighWays_0) (nodes := [(3, ([(0, 7), ((-2147483648), 2147483647), (0, 8), (0, 99)], [some (.inr (.inr (.inl [34]))), some (.inr (.inr (.inl [47]))), some (.inl (some 0, 0)), some (.inl (some 1, 0)), some (.inl (some 2, 0)), none, none, none, none, none], [], [((37, 0), (some 3, 0))]), ([0, 0, (-10)], 88)), (32, ([(0, 7), ((-2147483648), 2147483647), (0, 7), ((-2147483648), 2147483647), (0, 3), (0, 99)], [some (.inr (.inr (.inl [34]))), some (.inr (.inr (.inl [47]))), some (.inl (some 0, 0)), some (.inl (some 1, 0)), some (.inl (some 2, 0)), some (.inr (.inl ((-9223372036854775808), 9223372036854775807))), none, some (.inl (some 3, 0)), some (.inl (some 4, 0)), none], [], [((37, 0), (some 5, 0))]), ([0, 0, (-10), 0, (-2)], 86))]) (fuel := 4000) ⟨lqX3, fa_cons (⟨pcs_X3_37, hh_X3_keyShift_0⟩) (fa_cons (⟨pcs_X3_37, hh_X3_keyShift_1⟩) (fa_cons (⟨pcs_X3_37, hh_X3_keyShift_2⟩) (fa_cons (⟨⟨2, _, pcv_X3_97, rfl⟩, hh_X3_hoursAtAge_0⟩) (fa_cons (⟨⟨4, _, pcv_X3_100, rfl⟩, hh_X0_lossAhead_1⟩) (fa_nil)))))⟩ dtX3_weighWays (by decide +kernel)
abbrev cc_X3_cellOf_0 : scC := (qX3_cellOf, 0, [(0, 12), (0, 12), (0, 12)], [.inl (some 0, 0), .inl (some 1, 0), .inl (some 2, 0)], [], [(1, (0, 2196), [], [], [])], [])
set_option maxRecDepth 20000 in
abbrev xx_X3_cellOf_0 : scX := (Tx, invX, lnX3, [], cc_X3_cellOf_0)
set_option maxRecDepth 20000 in
theorem hh_X3_cellOf_0 : scH Tx invX cc_X3_cellOf_0 := scCheck_ok (X := xx_X3_cellOf_0) (nodes := []) (fuel := 4000) ⟨lqX3, fa_nil⟩ dtX3_cellOf (by decide +kernel)
abbrev cc_X3_cellOf_1 : scC := (qX3_cellOf, 0, [((-2147483648), 2147483647), ((-2147483648), 2147483647), ((-2147483648), 2147483647)], [.inl (some 0, 0), .inl (some 1, 0), .inl (some 2, 0)], [], [(1, ((-2147483648), 2147483647), [], [], [])], [])
set_option maxRecDepth 20000 in
abbrev xx_X3_cellOf_1 : scX := (Tx, invX, lnX3, [], cc_X3_cellOf_1)
set_option maxRecDepth 20000 in
theorem hh_X3_cellOf_1 : scH Tx invX cc_X3_cellOf_1 := scCheck_ok (X := xx_X3_cellOf_1) (nodes := []) (fuel := 4000) ⟨lqX3, fa_nil⟩ dtX3_cellOf (by decide +kernel)
abbrev cc_X3_leastOf_0 : scC := (qX3_leastOf, 1, [((-2147483648), 2147483647), (0, 12), (0, 12), (0, 12)], [.inr (.inr (.inl [34])), .inl (some 0, 0), .inl (some 1, 0), .inl (some 2, 0), .inl (some 3, 0)], [], [(2, ((-9223372036854775808), 9223372036854775807), [], [], [])], [])
set_option maxRecDepth 20000 in
abbrev xx_X3_leastOf_0 : scX := (Tx, invX, lnX3, [(90, 1, 0, cc_X3_cellOf_0)], cc_X3_leastOf_0)
set_option maxRecDepth 20000 in
theorem hh_X3_leastOf_0 : scH Tx invX cc_X3_leastOf_0 := scCheck_ok (X := xx_X3_leastOf_0) (nodes := [(24, ([((-2147483648), 2147483647), (0, 12), (0, 12), (0, 12), (1, 8), (0, 99), (0, 99), (0, 99)], [some (.inr (.inr (.inl [34]))), some (.inl (some 0, 0)), some (.inl (some 1, 0)), some (.inl (some 2, 0)), some (.inl (some 3, 0)), some (.inr (.inl ((-9223372036854775808), 9223372036854775807))), none, some (.inl (some 4, 0)), none, none, none], [], [((37, 5), (some 5, 0)), ((37, 4), (some 6, 0)), ((37, 3), (some 7, 0))]), ([0, 0, 0, 0, (-2)], 16))]) (fuel := 4000) ⟨lqX3, fa_cons (⟨pcs_X3_90, hh_X3_cellOf_0⟩) (fa_nil)⟩ dtX3_leastOf (by decide +kernel)
abbrev cc_X3_addLife_0 : scC := (qX3_addLife, 2, [((-2147483648), 2147483647)], [.inr (.inr (.inl [34])), .inl (some 0, 0)], [], [(0, (0, 0), [], [], [])], [(35, 0, 2197)])
set_option maxRecDepth 20000 in
abbrev xx_X3_addLife_0 : scX := (Tx, invX, lnX3, [(90, 1, 0, cc_X3_cellOf_0), (109, 0, 3, cc_X3_leastOf_0)], cc_X3_addLife_0)
set_option maxRecDepth 20000 in
theorem hh_X3_addLife_0 : scH Tx invX cc_X3_addLife_0 := scCheck_ok (X := xx_X3_addLife_0) (nodes := [(7, ([((-2147483648), 2147483647), ((-1), 12), (0, 12), (0, 12), (0, 12)], [some (.inr (.inr (.inl [34]))), some (.inl (some 0, 0)), some (.inl (some 1, 0)), none, none], [], [((38, 0), (some 2, 0)), ((38, 1), (some 3, 0)), ((38, 2), (some 4, 0))]), ([0, 422], 842)), (18, ([((-2147483648), 2147483647), (0, 12), ((-1), 12), (0, 12), (0, 12), (0, 12)], [some (.inr (.inr (.inl [34]))), some (.inl (some 0, 0)), some (.inl (some 1, 0)), some (.inl (some 2, 0)), none], [], [((38, 1), (some 3, 0)), ((38, 0), (some 4, 0)), ((38, 2), (some 5, 0))]), ([0, 422, 30], 480)), (30, ([((-2147483648), 2147483647), (0, 12), (0, 12), ((-1), 12), (0, 12), (0, 12), (0, 12)], [some (.inr (.inr (.inl [34]))), some (.inl (some 0, 0)), some (.inl (some 1, 0)), some (.inl (some 2, 0)), some (.inl (some 3, 0))], [], [((38, 2), (some 4, 0)), ((38, 1), (some 5, 0)), ((38, 0), (some 6, 0))]), ([0, 422, 30, 2], 454))]) (fuel := 4000) ⟨lqX3, fa_cons (⟨pcs_X3_90, hh_X3_cellOf_0⟩) (fa_cons (⟨⟨4, _, pcv_X3_109, rfl⟩, hh_X3_leastOf_0⟩) (fa_nil))⟩ dtX3_addLife (by decide +kernel)
abbrev cc_X3_prepare_0 : scC := (qX3_prepare, 6, [((-2147483648), 2147483647)], [.inr (.inr (.inl [34])), .inr (.inr (.inl [47])), .inl (some 0, 0)], [], [(0, (0, 0), [], [], [])], [(26, 0, 24), (34, 5, 2), (35, 0, 2197), (36, 0, 8), (37, 0, 24), (38, 0, 3)])
set_option maxRecDepth 20000 in
abbrev xx_X3_prepare_0 : scX := (Tx, invX, lnX3, [(41, 1, 0, cc_J7_fill_d0a16_0), (75, 0, 6, cc_X6_isAlive_0), (82, 0, 3, cc_X3_weighWays_0), (86, 0, 3, cc_X3_addLife_0), (90, 1, 0, cc_X3_cellOf_0)], cc_X3_prepare_0)
set_option maxRecDepth 20000 in
theorem hh_X3_prepare_0 : scH Tx invX cc_X3_prepare_0 := scCheck_ok (X := xx_X3_prepare_0) (nodes := [(19, ([((-2147483648), 2147483647), (0, 3), ((-2147483648), 2147483647), (0, 12), ((-2147483648), 2147483647), (0, 12), ((-1), 12)], [some (.inr (.inr (.inl [34]))), some (.inr (.inr (.inl [47]))), some (.inl (some 0, 0)), some (.inl (some 1, 0)), none], [], [((34, 5), (some 2, 0)), ((38, 0), (some 3, 0)), ((47, 3), (some 4, 0)), ((38, 1), (some 5, 0)), ((3, 11), (some 6, 0))]), ([0, (-2)], 24)), (81, ([((-2147483648), 2147483647), (0, 8), ((-2147483648), 2147483647), (0, 12), ((-2147483648), 2147483647), (0, 12), ((-1), 12), (0, 64), (0, 8)], [some (.inr (.inr (.inl [34]))), some (.inr (.inr (.inl [47]))), some (.inl (some 0, 0)), some (.inl (some 1, 0)), none], [], [((34, 5), (some 2, 0)), ((38, 0), (some 3, 0)), ((47, 3), (some 4, 0)), ((38, 1), (some 5, 0)), ((3, 11), (some 6, 0)), ((5, 0), (some 7, 0)), ((3, 9), (some 8, 0))]), ([0, (-2)], 16))]) (fuel := 4000) ⟨lqX3, fa_cons (⟨pcs_X3_41, hh_J7_fill_d0a16_0⟩) (fa_cons (⟨⟨1, _, pcv_X3_75, rfl⟩, hh_X6_isAlive_0⟩) (fa_cons (⟨⟨3, _, pcv_X3_82, rfl⟩, hh_X3_weighWays_0⟩) (fa_cons (⟨⟨1, _, pcv_X3_86, rfl⟩, hh_X3_addLife_0⟩) (fa_cons (⟨pcs_X3_90, hh_X3_cellOf_0⟩) (fa_nil)))))⟩ dtX3_prepare (by decide +kernel)
abbrev cc_X3_leastLoss_0 : scC := (qX3_leastLoss, 0, [], [.inr (.inr (.inl [34]))], [], [(2, ((-9223372036854775808), 9223372036854775807), [], [], [])], [])
set_option maxRecDepth 20000 in
abbrev xx_X3_leastLoss_0 : scX := (Tx, invX, lnX3, [], cc_X3_leastLoss_0)
set_option maxRecDepth 20000 in
theorem hh_X3_leastLoss_0 : scH Tx invX cc_X3_leastLoss_0 := scCheck_ok (X := xx_X3_leastLoss_0) (nodes := []) (fuel := 4000) ⟨lqX3, fa_nil⟩ dtX3_leastLoss (by decide +kernel)
abbrev cc_X10_best_0 : scC := (qX10_best, 7, [((-2147483648), 2147483647), ((-2147483648), 2147483647)], [.inr (.inr (.inl [0])), .inl (some 0, 0), .inl (some 1, 0)], [], [(2, ((-9223372036854775808), 9223372036854775807), [], [], []), (4, (0, 0), [], [], [])], [(0, 16, 1), (26, 0, 24), (34, 5, 2), (35, 0, 2197), (36, 0, 8), (37, 0, 24), (38, 0, 3)])
set_option maxRecDepth 20000 in
abbrev xx_X10_best_0 : scX := (Tx, invX, lnX10, [(169, 0, 10, cc_X10_needWithin_9), (244, 0, 10, cc_X10_needPart_0), (253, 1, 0, cc_hand_termOf), (289, 0, 3, cc_X3_prepare_0), (293, 0, 3, cc_X3_leastLoss_0)], cc_X10_best_0)
set_option maxRecDepth 20000 in
theorem hh_X10_best_0 : scH Tx invX cc_X10_best_0 := scCheck_ok (X := xx_X10_best_0) (nodes := []) (fuel := 4000) ⟨lqX10, fa_cons (⟨⟨3, _, pcv_X10_169, rfl⟩, hh_X10_needWithin_9⟩) (fa_cons (⟨⟨1, _, pcv_X10_244, rfl⟩, hh_X10_needPart_0⟩) (fa_cons (⟨pcs_X10_253, hh_hand_termOf⟩) (fa_cons (⟨⟨2, _, pcv_X10_289, rfl⟩, hh_X3_prepare_0⟩) (fa_cons (⟨⟨0, _, pcv_X10_293, rfl⟩, hh_X3_leastLoss_0⟩) (fa_nil)))))⟩ dtX10_best (by decide +kernel)
abbrev cc_X10_needWithin_10 : scC := (qX10_needWithin, 0, [((-2147483648), 2147483647), (0, 0), (0, 2)], [.inr (.inr (.inl [0])), .inl (some 0, 0), .inl (some 1, 0), .inl (some 2, 0)], [], [(0, (0, 0), [], [(0, (0, 2))], []), (4, (0, 0), [], [], [])], [(0, 16, 1)])
set_option maxRecDepth 20000 in
abbrev xx_X10_needWithin_10 : scX := (Tx, invX, lnX10, [], cc_X10_needWithin_10)
set_option maxRecDepth 20000 in
theorem hh_X10_needWithin_10 : scH Tx invX cc_X10_needWithin_10 := scCheck_ok (X := xx_X10_needWithin_10) (nodes := []) (fuel := 4000) ⟨lqX10, fa_nil⟩ dtX10_needWithin (by decide +kernel)
abbrev cc_X3_writtenIn_0 : scC := (qX3_writtenIn, 1, [(0, 2)], [.inr (.inr (.inl [34])), .inl (some 0, 0)], [], [(1, (0, 255), [], [], [])], [])
set_option maxRecDepth 20000 in
abbrev xx_X3_writtenIn_0 : scX := (Tx, invX, lnX3, [(37, 1, 0, cc_X3_keyShift_2)], cc_X3_writtenIn_0)
set_option maxRecDepth 20000 in
theorem hh_X3_writtenIn_0 : scH Tx invX cc_X3_writtenIn_0 := scCheck_ok (X := xx_X3_writtenIn_0) (nodes := []) (fuel := 4000) ⟨lqX3, fa_cons (⟨pcs_X3_37, hh_X3_keyShift_2⟩) (fa_nil)⟩ dtX3_writtenIn (by decide +kernel)
abbrev cc_X10_bestIn_0 : scC := (qX10_bestIn, 7, [((-2147483648), 2147483647), ((-2147483648), 2147483647)], [.inr (.inr (.inl [0])), .inl (some 0, 0), .inl (some 1, 0)], [], [(1, (0, 255), [], [], []), (4, (0, 0), [], [], [])], [(0, 16, 1), (26, 0, 24), (34, 5, 2), (35, 0, 2197), (36, 0, 8), (37, 0, 24), (38, 0, 3)])
set_option maxRecDepth 20000 in
abbrev xx_X10_bestIn_0 : scX := (Tx, invX, lnX10, [(169, 0, 10, cc_X10_needWithin_9), (169, 0, 10, cc_X10_needWithin_10), (289, 0, 3, cc_X3_prepare_0), (297, 0, 3, cc_X3_writtenIn_0)], cc_X10_bestIn_0)
set_option maxRecDepth 20000 in
theorem hh_X10_bestIn_0 : scH Tx invX cc_X10_bestIn_0 := scCheck_ok (X := xx_X10_bestIn_0) (nodes := []) (fuel := 4000) ⟨lqX10, fa_cons (⟨⟨3, _, pcv_X10_169, rfl⟩, hh_X10_needWithin_9⟩) (fa_cons (⟨⟨3, _, pcv_X10_169, rfl⟩, hh_X10_needWithin_10⟩) (fa_cons (⟨⟨2, _, pcv_X10_289, rfl⟩, hh_X3_prepare_0⟩) (fa_cons (⟨⟨1, _, pcv_X10_297, rfl⟩, hh_X3_writtenIn_0⟩) (fa_nil))))⟩ dtX10_bestIn (by decide +kernel)
abbrev cc_X10_needWithin_11 : scC := (qX10_needWithin, 0, [((-2147483648), 2147483647), (0, 0), (999, 999)], [.inr (.inr (.inl [0])), .inl (some 0, 0), .inl (some 1, 0), .inl (some 2, 0)], [], [(0, (0, 0), [], [(0, (0, 999))], []), (4, (0, 0), [], [], [])], [(0, 16, 1)])
set_option maxRecDepth 20000 in
abbrev xx_X10_needWithin_11 : scX := (Tx, invX, lnX10, [], cc_X10_needWithin_11)
set_option maxRecDepth 20000 in
theorem hh_X10_needWithin_11 : scH Tx invX cc_X10_needWithin_11 := scCheck_ok (X := xx_X10_needWithin_11) (nodes := []) (fuel := 4000) ⟨lqX10, fa_nil⟩ dtX10_needWithin (by decide +kernel)
abbrev cc_X0_riskAtAge_0 : scC := (qX0_riskAtAge, 2, [(0, 7), (0, 7)], [.inr (.inr (.inl [32])), .inr (.inr (.inl [47])), .inl (some 0, 0), .inl (some 1, 0)], [], [(2, ((-9223372036854775808), 9223372036854775807), [], [], [])], [(26, 0, 24)])
set_option maxRecDepth 20000 in
abbrev xx_X0_riskAtAge_0 : scX := (Tx, invX, lnX0, [(46, 0, 0, cc_X0_yearsWhen_0), (53, 0, 0, cc_X0_signerDead_0), (57, 0, 1, cc_X1_outcome_0)], cc_X0_riskAtAge_0)
set_option maxRecDepth 20000 in
theorem hh_X0_riskAtAge_0 : scH Tx invX cc_X0_riskAtAge_0 := scCheck_ok (X := xx_X0_riskAtAge_0) (nodes := []) (fuel := 4000) ⟨lqX0, fa_cons (⟨⟨3, _, pcv_X0_46, rfl⟩, hh_X0_yearsWhen_0⟩) (fa_cons (⟨⟨2, _, pcv_X0_53, rfl⟩, hh_X0_signerDead_0⟩) (fa_cons (⟨⟨5, _, pcv_X0_57, rfl⟩, hh_X1_outcome_0⟩) (fa_nil)))⟩ dtX0_riskAtAge (by decide +kernel)
abbrev cc_X10_renewalPrice_0 : scC := (qX10_renewalPrice, 2, [(0, 7), ((-2147483648), 2147483647)], [.inr (.inr (.inl [0])), .inl (some 0, 0), .inl (some 1, 0)], [], [(2, ((-9223372036854775808), 9223372036854775807), [], [], [])], [])
set_option maxRecDepth 20000 in
abbrev xx_X10_renewalPrice_0 : scX := (Tx, invX, lnX10, [(212, 0, 8, cc_X8_renewHours_0)], cc_X10_renewalPrice_0)
set_option maxRecDepth 20000 in
theorem hh_X10_renewalPrice_0 : scH Tx invX cc_X10_renewalPrice_0 := scCheck_ok (X := xx_X10_renewalPrice_0) (nodes := []) (fuel := 4000) ⟨lqX10, fa_cons (⟨⟨1, _, pcv_X10_212, rfl⟩, hh_X8_renewHours_0⟩) (fa_nil)⟩ dtX10_renewalPrice (by decide +kernel)
abbrev cc_X0_riskAtAge_1 : scC := (qX0_riskAtAge, 2, [(0, 7), ((-2147483648), 2147483647)], [.inr (.inr (.inl [32])), .inr (.inr (.inl [47])), .inl (some 0, 0), .inl (some 1, 0)], [], [(2, ((-9223372036854775808), 9223372036854775807), [], [], [])], [(26, 0, 24)])
set_option maxRecDepth 20000 in
abbrev xx_X0_riskAtAge_1 : scX := (Tx, invX, lnX0, [(46, 0, 0, cc_X0_yearsWhen_0), (53, 0, 0, cc_X0_signerDead_0), (57, 0, 1, cc_X1_outcome_0)], cc_X0_riskAtAge_1)
set_option maxRecDepth 20000 in
theorem hh_X0_riskAtAge_1 : scH Tx invX cc_X0_riskAtAge_1 := scCheck_ok (X := xx_X0_riskAtAge_1) (nodes := []) (fuel := 4000) ⟨lqX0, fa_cons (⟨⟨3, _, pcv_X0_46, rfl⟩, hh_X0_yearsWhen_0⟩) (fa_cons (⟨⟨2, _, pcv_X0_53, rfl⟩, hh_X0_signerDead_0⟩) (fa_cons (⟨⟨5, _, pcv_X0_57, rfl⟩, hh_X1_outcome_0⟩) (fa_nil)))⟩ dtX0_riskAtAge (by decide +kernel)
abbrev cc_X10_often_0 : scC := (qX10_often, 3, [((-2147483648), 2147483647), ((-2147483648), 2147483647)], [.inr (.inr (.inl [0])), .inl (some 0, 0), .inl (some 1, 0)], [], [(1, (0, 2147483647), [], [], []), (4, (0, 0), [], [], []), (5, (0, 0), [], [], [])], [(0, 15, 2), (26, 0, 24)])
set_option maxRecDepth 20000 in
abbrev xx_X10_often_0 : scX := (Tx, invX, lnX10, [(169, 0, 10, cc_X10_needWithin_11), (197, 0, 10, cc_X10_needLife_0), (300, 0, 0, cc_X0_riskAtAge_0), (300, 0, 0, cc_X0_riskAtAge_1), (304, 0, 10, cc_X10_renewalPrice_0)], cc_X10_often_0)
set_option maxRecDepth 20000 in
theorem hh_X10_often_0 : scH Tx invX cc_X10_often_0 := scCheck_ok (X := xx_X10_often_0) (nodes := [(25, ([(0, 7), (0, 999), (0, 2147483647), (1, 31)], [some (.inr (.inr (.inl [0]))), some (.inl (some 0, 0)), some (.inl (some 1, 0)), some (.inr (.inl ((-9223372036854775808), 9223372036854775807))), none, some (.inr (.inl ((-9223372036854775808), 9223372036854775807))), none, some (.inl (some 2, 0)), some (.inl (some 3, 0)), none, none], [], []), ([0, 0, 0, (-2)], 62))]) (fuel := 4000) ⟨lqX10, fa_cons (⟨⟨3, _, pcv_X10_169, rfl⟩, hh_X10_needWithin_11⟩) (fa_cons (⟨⟨1, _, pcv_X10_197, rfl⟩, hh_X10_needLife_0⟩) (fa_cons (⟨⟨3, _, pcv_X10_300, rfl⟩, hh_X0_riskAtAge_0⟩) (fa_cons (⟨⟨3, _, pcv_X10_300, rfl⟩, hh_X0_riskAtAge_1⟩) (fa_cons (⟨⟨2, _, pcv_X10_304, rfl⟩, hh_X10_renewalPrice_0⟩) (fa_nil)))))⟩ dtX10_often (by decide +kernel)
abbrev cc_X10_needWithin_12 : scC := (qX10_needWithin, 0, [((-2147483648), 2147483647), (1, 1), (30, 30)], [.inr (.inr (.inl [0])), .inl (some 0, 0), .inl (some 1, 0), .inl (some 2, 0)], [], [(0, (0, 0), [], [(0, (1, 30))], []), (4, (0, 0), [], [], [])], [(0, 16, 1)])
set_option maxRecDepth 20000 in
abbrev xx_X10_needWithin_12 : scX := (Tx, invX, lnX10, [], cc_X10_needWithin_12)
set_option maxRecDepth 20000 in
theorem hh_X10_needWithin_12 : scH Tx invX cc_X10_needWithin_12 := scCheck_ok (X := xx_X10_needWithin_12) (nodes := []) (fuel := 4000) ⟨lqX10, fa_nil⟩ dtX10_needWithin (by decide +kernel)
abbrev cc_X10_yearly_0 : scC := (qX10_yearly, 3, [((-2147483648), 2147483647), ((-2147483648), 2147483647), ((-2147483648), 2147483647), ((-2147483648), 2147483647)], [.inr (.inr (.inl [0])), .inl (some 0, 0), .inl (some 1, 0), .inl (some 2, 0), .inl (some 3, 0)], [], [(2, ((-9223372036854775808), 9223372036854775807), [], [], []), (4, (0, 0), [], [], []), (5, (0, 0), [], [], [])], [(0, 15, 2), (26, 0, 24)])
set_option maxRecDepth 20000 in
abbrev xx_X10_yearly_0 : scX := (Tx, invX, lnX10, [(169, 0, 10, cc_X10_needWithin_11), (169, 0, 10, cc_X10_needWithin_12), (197, 0, 10, cc_X10_needLife_0), (244, 0, 10, cc_X10_needPart_0), (253, 1, 0, cc_hand_termOf), (300, 0, 0, cc_X0_riskAtAge_0), (300, 0, 0, cc_X0_riskAtAge_1), (304, 0, 10, cc_X10_renewalPrice_0)], cc_X10_yearly_0)
set_option maxRecDepth 20000 in
theorem hh_X10_yearly_0 : scH Tx invX cc_X10_yearly_0 := scCheck_ok (X := xx_X10_yearly_0) (nodes := [(39, ([(0, 7), (0, 999), (1, 30), (0, 1), (0, 30)], [some (.inr (.inr (.inl [0]))), some (.inl (some 0, 0)), some (.inl (some 1, 0)), some (.inl (some 2, 0)), some (.inl (some 3, 0)), some (.inr (.inl ((-9223372036854775808), 9223372036854775807))), none, some (.inl (some 4, 0))], [], []), ([0, 0, 0, 0, (-2)], 60))]) (fuel := 4000) ⟨lqX10, fa_cons (⟨⟨3, _, pcv_X10_169, rfl⟩, hh_X10_needWithin_11⟩) (fa_cons (⟨⟨3, _, pcv_X10_169, rfl⟩, hh_X10_needWithin_12⟩) (fa_cons (⟨⟨1, _, pcv_X10_197, rfl⟩, hh_X10_needLife_0⟩) (fa_cons (⟨⟨1, _, pcv_X10_244, rfl⟩, hh_X10_needPart_0⟩) (fa_cons (⟨pcs_X10_253, hh_hand_termOf⟩) (fa_cons (⟨⟨3, _, pcv_X10_300, rfl⟩, hh_X0_riskAtAge_0⟩) (fa_cons (⟨⟨3, _, pcv_X10_300, rfl⟩, hh_X0_riskAtAge_1⟩) (fa_cons (⟨⟨2, _, pcv_X10_304, rfl⟩, hh_X10_renewalPrice_0⟩) (fa_nil))))))))⟩ dtX10_yearly (by decide +kernel)
abbrev cc_X10_needWithin_13 : scC := (qX10_needWithin, 0, [((-2147483648), 2147483647), (0, 0), (16, 16)], [.inr (.inr (.inl [0])), .inl (some 0, 0), .inl (some 1, 0), .inl (some 2, 0)], [], [(0, (0, 0), [], [(0, (0, 16))], []), (4, (0, 0), [], [], [])], [(0, 16, 1)])
set_option maxRecDepth 20000 in
abbrev xx_X10_needWithin_13 : scX := (Tx, invX, lnX10, [], cc_X10_needWithin_13)
set_option maxRecDepth 20000 in
theorem hh_X10_needWithin_13 : scH Tx invX cc_X10_needWithin_13 := scCheck_ok (X := xx_X10_needWithin_13) (nodes := []) (fuel := 4000) ⟨lqX10, fa_nil⟩ dtX10_needWithin (by decide +kernel)
abbrev cc_X10_needRumour_0 : scC := (qX10_needRumour, 1, [((-2147483648), 2147483647), ((-2147483648), 2147483647), ((-2147483648), 2147483647), ((-2147483648), 2147483647)], [.inr (.inr (.inl [0])), .inl (some 0, 0), .inl (some 1, 0), .inl (some 2, 0), .inl (some 3, 0)], [], [(0, (0, 0), [], [], []), (4, (0, 0), [], [], [])], [(0, 16, 1)])
set_option maxRecDepth 20000 in
abbrev xx_X10_needRumour_0 : scX := (Tx, invX, lnX10, [(169, 0, 10, cc_X10_needWithin_13), (169, 0, 10, cc_X10_needWithin_11)], cc_X10_needRumour_0)
set_option maxRecDepth 20000 in
theorem hh_X10_needRumour_0 : scH Tx invX cc_X10_needRumour_0 := scCheck_ok (X := xx_X10_needRumour_0) (nodes := []) (fuel := 4000) ⟨lqX10, fa_cons (⟨⟨3, _, pcv_X10_169, rfl⟩, hh_X10_needWithin_13⟩) (fa_cons (⟨⟨3, _, pcv_X10_169, rfl⟩, hh_X10_needWithin_11⟩) (fa_nil))⟩ dtX10_needRumour (by decide +kernel)
abbrev cc_X10_needWithin_14 : scC := (qX10_needWithin, 0, [((-2147483648), 2147483647), (0, 0), (2, 2)], [.inr (.inr (.inl [0])), .inl (some 0, 0), .inl (some 1, 0), .inl (some 2, 0)], [], [(0, (0, 0), [], [(0, (0, 2))], []), (4, (0, 0), [], [], [])], [(0, 16, 1)])
set_option maxRecDepth 20000 in
abbrev xx_X10_needWithin_14 : scX := (Tx, invX, lnX10, [], cc_X10_needWithin_14)
set_option maxRecDepth 20000 in
theorem hh_X10_needWithin_14 : scH Tx invX cc_X10_needWithin_14 := scCheck_ok (X := xx_X10_needWithin_14) (nodes := []) (fuel := 4000) ⟨lqX10, fa_nil⟩ dtX10_needWithin (by decide +kernel)
abbrev cc_X10_meanOf_0 : scC := (qX10_meanOf, 0, [(0, 16), ((-2147483648), 2147483647), ((-2147483648), 2147483647), ((-2147483648), 2147483647), ((-2147483648), 2147483647), (0, 2)], [.inl (some 0, 0), .inl (some 1, 0), .inl (some 2, 0), .inl (some 3, 0), .inl (some 4, 0), .inl (some 5, 0)], [], [(1, ((-2147483648), 2147483647), [], [], [])], [])
set_option maxRecDepth 20000 in
abbrev xx_X10_meanOf_0 : scX := (Tx, invX, lnX10, [], cc_X10_meanOf_0)
set_option maxRecDepth 20000 in
theorem hh_X10_meanOf_0 : scH Tx invX cc_X10_meanOf_0 := scCheck_ok (X := xx_X10_meanOf_0) (nodes := []) (fuel := 4000) ⟨lqX10, fa_nil⟩ dtX10_meanOf (by decide +kernel)
abbrev cc_X10_brings_0 : scC := (qX10_brings, 2, [((-2147483648), 2147483647), ((-2147483648), 2147483647), ((-2147483648), 2147483647), ((-2147483648), 2147483647), ((-2147483648), 2147483647), ((-2147483648), 2147483647)], [.inr (.inr (.inl [0])), .inl (some 0, 0), .inl (some 1, 0), .inl (some 2, 0), .inl (some 3, 0), .inl (some 4, 0), .inl (some 5, 0)], [], [(1, ((-2147483648), 2147483647), [], [], []), (4, (0, 0), [], [], [])], [(0, 16, 1)])
set_option maxRecDepth 20000 in
abbrev xx_X10_brings_0 : scX := (Tx, invX, lnX10, [(169, 0, 10, cc_X10_needWithin_13), (169, 0, 10, cc_X10_needWithin_14), (308, 0, 10, cc_X10_needRumour_0), (312, 1, 0, cc_X10_meanOf_0)], cc_X10_brings_0)
set_option maxRecDepth 20000 in
theorem hh_X10_brings_0 : scH Tx invX cc_X10_brings_0 := scCheck_ok (X := xx_X10_brings_0) (nodes := []) (fuel := 4000) ⟨lqX10, fa_cons (⟨⟨3, _, pcv_X10_169, rfl⟩, hh_X10_needWithin_13⟩) (fa_cons (⟨⟨3, _, pcv_X10_169, rfl⟩, hh_X10_needWithin_14⟩) (fa_cons (⟨⟨4, _, pcv_X10_308, rfl⟩, hh_X10_needRumour_0⟩) (fa_cons (⟨pcs_X10_312, hh_X10_meanOf_0⟩) (fa_nil))))⟩ dtX10_brings (by decide +kernel)
