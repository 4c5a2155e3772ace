-- P 10kc
section
abbrev cc_X10_piecesWrongBy_0 : scC := (qX10_piecesWrongBy, 3, [(0, 65)], [.inr (.inr (.inl [0])), .inl (some 0, 0)], [], [(1, ((-2147483648), 2147483647), [], [], [])], [(26, 0, 24)])
set_option maxRecDepth 20000 in
abbrev xx_X10_piecesWrongBy_0 : scX := (Tx, invX, lnX10, [(229, 0, 0, cc_X0_wrongWhen_0)], cc_X10_piecesWrongBy_0)
set_option maxRecDepth 20000 in
theorem hh_X10_piecesWrongBy_0 : scH Tx invX cc_X10_piecesWrongBy_0 := scCheck_ok (X := xx_X10_piecesWrongBy_0) (nodes := [(4, ([(0, 65), ((-2147483648), 2147483647), (0, 8), ((-2147483648), 2147483647), (0, 8)], [some (.inr (.inr (.inl [0]))), some (.inl (some 0, 0)), some (.inl (some 1, 0)), some (.inl (some 2, 0)), none], [], [((48, 0), (some 3, 0)), ((3, 9), (some 4, 0))]), ([0, 0, (-2)], 16))]) (fuel := 4000) ⟨lqX10, fa_cons (⟨⟨4, _, pcv_X10_229, rfl⟩, hh_X0_wrongWhen_0⟩) (fa_nil)⟩ dtX10_piecesWrongBy (by decide +kernel)
abbrev cc_X10_stale_0 : scC := (qX10_stale, 4, [((-2147483648), 2147483647)], [.inr (.inr (.inl [0])), .inl (some 0, 0)], [], [(1, ((-2147483648), 2147483647), [], [], []), (4, (0, 0), [], [], [])], [(0, 16, 1), (26, 0, 24)])
set_option maxRecDepth 20000 in
abbrev xx_X10_stale_0 : scX := (Tx, invX, lnX10, [(169, 0, 10, cc_X10_needWithin_7), (241, 0, 10, cc_X10_piecesWrongBy_0)], cc_X10_stale_0)
set_option maxRecDepth 20000 in
theorem hh_X10_stale_0 : scH Tx invX cc_X10_stale_0 := scCheck_ok (X := xx_X10_stale_0) (nodes := []) (fuel := 4000) ⟨lqX10, fa_cons (⟨⟨3, _, pcv_X10_169, rfl⟩, hh_X10_needWithin_7⟩) (fa_cons (⟨⟨1, _, pcv_X10_241, rfl⟩, hh_X10_piecesWrongBy_0⟩) (fa_nil))⟩ dtX10_stale (by decide +kernel)
abbrev cc_X10_oldest_0 : scC := (qX10_oldest, 0, [], [.inr (.inr (.inl [0]))], [], [(1, ((-1), 7), [], [], [])], [])
set_option maxRecDepth 20000 in
abbrev xx_X10_oldest_0 : scX := (Tx, invX, lnX10, [], cc_X10_oldest_0)
set_option maxRecDepth 20000 in
theorem hh_X10_oldest_0 : scH Tx invX cc_X10_oldest_0 := scCheck_ok (X := xx_X10_oldest_0) (nodes := [(6, ([((-1), 7), ((-2147483648), 2147483647), (0, 8), ((-2147483648), 2147483647), (0, 8)], [some (.inr (.inr (.inl [0]))), some (.inl (some 0, 0)), some (.inl (some 1, 0)), some (.inl (some 2, 0))], [], [((48, 0), (some 3, 0)), ((3, 9), (some 4, 0))]), ([0, 0, (-2)], 16))]) (fuel := 4000) ⟨lqX10, fa_nil⟩ dtX10_oldest (by decide +kernel)
abbrev cc_X10_chain_0 : scC := (qX10_chain, 1, [((-2147483648), 2147483647), ((-2147483648), 2147483647)], [.inr (.inr (.inl [0])), .inl (some 0, 0), .inl (some 1, 0)], [], [(1, (0, 63), [], [], []), (4, (0, 0), [], [], []), (5, (0, 0), [], [], [])], [(0, 15, 2)])
set_option maxRecDepth 20000 in
abbrev xx_X10_chain_0 : scX := (Tx, invX, lnX10, [(169, 0, 10, cc_X10_needWithin_5), (182, 1, 0, cc_J6_bitCount_0f7a4_0), (197, 0, 10, cc_X10_needLife_0)], cc_X10_chain_0)
set_option maxRecDepth 20000 in
theorem hh_X10_chain_0 : scH Tx invX cc_X10_chain_0 := scCheck_ok (X := xx_X10_chain_0) (nodes := [(22, ([(0, 7), (0, 1), ((-2147483648), 2147483647), (0, 7), (0, 8), (0, 8)], [some (.inr (.inr (.inl [0]))), some (.inl (some 0, 0)), some (.inl (some 1, 0)), some (.inl (some 2, 0)), some (.inl (some 3, 0)), some (.inl (some 4, 0)), none], [], [((3, 9), (some 5, 0))]), ([0, 0, 0, 0, (-2)], 16))]) (fuel := 4000) ⟨lqX10, fa_cons (⟨⟨3, _, pcv_X10_169, rfl⟩, hh_X10_needWithin_5⟩) (fa_cons (⟨pcs_X10_182, hh_J6_bitCount_0f7a4_0⟩) (fa_cons (⟨⟨1, _, pcv_X10_197, rfl⟩, hh_X10_needLife_0⟩) (fa_nil)))⟩ dtX10_chain (by decide +kernel)
abbrev cc_X10_needPart_0 : scC := (qX10_needPart, 1, [((-2147483648), 2147483647)], [.inr (.inr (.inl [0])), .inl (some 0, 0)], [], [(0, (0, 0), [], [(0, (0, 1))], []), (4, (0, 0), [], [], [])], [(0, 16, 1)])
set_option maxRecDepth 20000 in
abbrev xx_X10_needPart_0 : scX := (Tx, invX, lnX10, [(169, 0, 10, cc_X10_needWithin_5)], cc_X10_needPart_0)
set_option maxRecDepth 20000 in
theorem hh_X10_needPart_0 : scH Tx invX cc_X10_needPart_0 := scCheck_ok (X := xx_X10_needPart_0) (nodes := []) (fuel := 4000) ⟨lqX10, fa_cons (⟨⟨3, _, pcv_X10_169, rfl⟩, hh_X10_needWithin_5⟩) (fa_nil)⟩ dtX10_needPart (by decide +kernel)
abbrev cc_X10_loss_0 : scC := (qX10_loss, 2, [((-2147483648), 2147483647)], [.inr (.inr (.inl [0])), .inl (some 0, 0)], [], [(2, ((-9223372036854775808), 9223372036854775807), [], [], []), (4, (0, 0), [], [], [])], [(0, 16, 1)])
set_option maxRecDepth 20000 in
abbrev xx_X10_loss_0 : scX := (Tx, invX, lnX10, [(244, 0, 10, cc_X10_needPart_0), (253, 1, 0, cc_hand_termOf)], cc_X10_loss_0)
set_option maxRecDepth 20000 in
theorem hh_X10_loss_0 : scH Tx invX cc_X10_loss_0 := scCheck_ok (X := xx_X10_loss_0) (nodes := []) (fuel := 4000) ⟨lqX10, fa_cons (⟨⟨1, _, pcv_X10_244, rfl⟩, hh_X10_needPart_0⟩) (fa_cons (⟨pcs_X10_253, hh_hand_termOf⟩) (fa_nil))⟩ dtX10_loss (by decide +kernel)
abbrev cc_X0_costWhen_0 : scC := (qX0_costWhen, 3, [(0, 7), (0, 7), ((-2147483648), 2147483647)], [.inr (.inr (.inl [32])), .inr (.inr (.inl [47])), .inl (some 0, 0), .inl (some 1, 0), .inl (some 2, 0)], [], [(2, ((-9223372036854775808), 9223372036854775807), [], [], [])], [(26, 0, 24)])
set_option maxRecDepth 20000 in
abbrev xx_X0_costWhen_0 : scX := (Tx, invX, lnX0, [(71, 0, 0, cc_X0_wrongWhen_0)], cc_X0_costWhen_0)
set_option maxRecDepth 20000 in
theorem hh_X0_costWhen_0 : scH Tx invX cc_X0_costWhen_0 := scCheck_ok (X := xx_X0_costWhen_0) (nodes := []) (fuel := 4000) ⟨lqX0, fa_cons (⟨⟨4, _, pcv_X0_71, rfl⟩, hh_X0_wrongWhen_0⟩) (fa_nil)⟩ dtX0_costWhen (by decide +kernel)
abbrev cc_X10_cost_0 : scC := (qX10_cost, 4, [((-2147483648), 2147483647), ((-2147483648), 2147483647)], [.inr (.inr (.inl [0])), .inl (some 0, 0), .inl (some 1, 0)], [], [(2, ((-9223372036854775808), 9223372036854775807), [], [], []), (4, (0, 0), [], [], []), (5, (0, 0), [], [], [])], [(0, 15, 2), (26, 0, 24)])
set_option maxRecDepth 20000 in
abbrev xx_X10_cost_0 : scX := (Tx, invX, lnX10, [(197, 0, 10, cc_X10_needLife_0), (215, 0, 6, cc_X6_isAlive_0), (244, 0, 10, cc_X10_needPart_0), (253, 1, 0, cc_hand_termOf), (257, 0, 0, cc_X0_costWhen_0)], cc_X10_cost_0)
set_option maxRecDepth 20000 in
theorem hh_X10_cost_0 : scH Tx invX cc_X10_cost_0 := scCheck_ok (X := xx_X10_cost_0) (nodes := []) (fuel := 4000) ⟨lqX10, fa_cons (⟨⟨1, _, pcv_X10_197, rfl⟩, hh_X10_needLife_0⟩) (fa_cons (⟨⟨1, _, pcv_X10_215, rfl⟩, hh_X6_isAlive_0⟩) (fa_cons (⟨⟨1, _, pcv_X10_244, rfl⟩, hh_X10_needPart_0⟩) (fa_cons (⟨pcs_X10_253, hh_hand_termOf⟩) (fa_cons (⟨⟨4, _, pcv_X10_257, rfl⟩, hh_X0_costWhen_0⟩) (fa_nil)))))⟩ dtX10_cost (by decide +kernel)
abbrev cc_X0_yearsWhen_1 : scC := (qX0_yearsWhen, 0, [(0, 7), ((-2147483648), 2147483647)], [.inr (.inr (.inl [32])), .inr (.inr (.inl [47])), .inl (some 0, 0), .inl (some 1, 0)], [], [(1, ((-2147483648), 2147483647), [], [], [])], [])
set_option maxRecDepth 20000 in
abbrev xx_X0_yearsWhen_1 : scX := (Tx, invX, lnX0, [], cc_X0_yearsWhen_1)
set_option maxRecDepth 20000 in
theorem hh_X0_yearsWhen_1 : scH Tx invX cc_X0_yearsWhen_1 := scCheck_ok (X := xx_X0_yearsWhen_1) (nodes := []) (fuel := 4000) ⟨lqX0, fa_nil⟩ dtX0_yearsWhen (by decide +kernel)
abbrev cc_X0_wrongWhen_1 : scC := (qX0_wrongWhen, 2, [(0, 7), ((-2147483648), 2147483647), ((-2147483648), 2147483647)], [.inr (.inr (.inl [32])), .inr (.inr (.inl [47])), .inl (some 0, 0), .inl (some 1, 0), .inl (some 2, 0)], [], [(1, (0, 64), [], [], [])], [(26, 0, 24)])
set_option maxRecDepth 20000 in
abbrev xx_X0_wrongWhen_1 : scX := (Tx, invX, lnX0, [(42, 0, 8, cc_X8_changesBetween_0), (46, 0, 0, cc_X0_yearsWhen_1), (53, 0, 0, cc_X0_signerDead_0), (57, 0, 1, cc_X1_outcome_0)], cc_X0_wrongWhen_1)
set_option maxRecDepth 20000 in
theorem hh_X0_wrongWhen_1 : scH Tx invX cc_X0_wrongWhen_1 := scCheck_ok (X := xx_X0_wrongWhen_1) (nodes := []) (fuel := 4000) ⟨lqX0, fa_cons (⟨⟨3, _, pcv_X0_42, rfl⟩, hh_X8_changesBetween_0⟩) (fa_cons (⟨⟨3, _, pcv_X0_46, rfl⟩, hh_X0_yearsWhen_1⟩) (fa_cons (⟨⟨2, _, pcv_X0_53, rfl⟩, hh_X0_signerDead_0⟩) (fa_cons (⟨⟨5, _, pcv_X0_57, rfl⟩, hh_X1_outcome_0⟩) (fa_nil))))⟩ dtX0_wrongWhen (by decide +kernel)
abbrev cc_X0_costWhen_1 : scC := (qX0_costWhen, 3, [(0, 7), ((-2147483648), 2147483647), ((-2147483648), 2147483647)], [.inr (.inr (.inl [32])), .inr (.inr (.inl [47])), .inl (some 0, 0), .inl (some 1, 0), .inl (some 2, 0)], [], [(2, ((-9223372036854775808), 9223372036854775807), [], [], [])], [(26, 0, 24)])
set_option maxRecDepth 20000 in
abbrev xx_X0_costWhen_1 : scX := (Tx, invX, lnX0, [(71, 0, 0, cc_X0_wrongWhen_1)], cc_X0_costWhen_1)
set_option maxRecDepth 20000 in
theorem hh_X0_costWhen_1 : scH Tx invX cc_X0_costWhen_1 := scCheck_ok (X := xx_X0_costWhen_1) (nodes := []) (fuel := 4000) ⟨lqX0, fa_cons (⟨⟨4, _, pcv_X0_71, rfl⟩, hh_X0_wrongWhen_1⟩) (fa_nil)⟩ dtX0_costWhen (by decide +kernel)
abbrev cc_X0_riskWhen_0 : scC := (qX0_riskWhen, 4, [((-2147483648), 2147483647)], [.inr (.inr (.inl [32])), .inr (.inr (.inl [47])), .inl (some 0, 0)], [], [(2, ((-9223372036854775808), 9223372036854775807), [], [], [])], [(26, 0, 24)])
set_option maxRecDepth 20000 in
abbrev xx_X0_riskWhen_0 : scX := (Tx, invX, lnX0, [(38, 0, 6, cc_X6_isAlive_0), (84, 0, 0, cc_X0_costWhen_1)], cc_X0_riskWhen_0)
set_option maxRecDepth 20000 in
theorem hh_X0_riskWhen_0 : scH Tx invX cc_X0_riskWhen_0 := scCheck_ok (X := xx_X0_riskWhen_0) (nodes := [(5, ([((-2147483648), 2147483647), (0, 8), (0, 64), ((-2147483648), 2147483647), (0, 8)], [some (.inr (.inr (.inl [32]))), some (.inr (.inr (.inl [47]))), some (.inl (some 0, 0)), some (.inr (.inl ((-9223372036854775808), 9223372036854775807))), none, some (.inl (some 1, 0)), none, none], [], [((5, 0), (some 2, 0)), ((48, 0), (some 3, 0)), ((3, 9), (some 4, 0))]), ([0, (-2)], 16))]) (fuel := 4000) ⟨lqX0, fa_cons (⟨⟨1, _, pcv_X0_38, rfl⟩, hh_X6_isAlive_0⟩) (fa_cons (⟨⟨4, _, pcv_X0_84, rfl⟩, hh_X0_costWhen_1⟩) (fa_nil))⟩ dtX0_riskWhen (by decide +kernel)
abbrev cc_X10_risk_0 : scC := (qX10_risk, 5, [((-2147483648), 2147483647)], [.inr (.inr (.inl [0])), .inl (some 0, 0)], [], [(2, ((-9223372036854775808), 9223372036854775807), [], [], []), (4, (0, 0), [], [], [])], [(0, 16, 1), (26, 0, 24)])
set_option maxRecDepth 20000 in
abbrev xx_X10_risk_0 : scX := (Tx, invX, lnX10, [(244, 0, 10, cc_X10_needPart_0), (253, 1, 0, cc_hand_termOf), (261, 0, 0, cc_X0_riskWhen_0)], cc_X10_risk_0)
set_option maxRecDepth 20000 in
theorem hh_X10_risk_0 : scH Tx invX cc_X10_risk_0 := scCheck_ok (X := xx_X10_risk_0) (nodes := []) (fuel := 4000) ⟨lqX10, fa_cons (⟨⟨1, _, pcv_X10_244, rfl⟩, hh_X10_needPart_0⟩) (fa_cons (⟨pcs_X10_253, hh_hand_termOf⟩) (fa_cons (⟨⟨2, _, pcv_X10_261, rfl⟩, hh_X0_riskWhen_0⟩) (fa_nil)))⟩ dtX10_risk (by decide +kernel)
abbrev cc_X0_hoursFor_0 : scC := (qX0_hoursFor, 2, [(0, 7)], [.inr (.inr (.inl [32])), .inr (.inr (.inl [47])), .inl (some 0, 0)], [], [(1, (0, 9), [], [], [])], [])
set_option maxRecDepth 20000 in
abbrev xx_X0_hoursFor_0 : scX := (Tx, invX, lnX0, [(91, 0, 8, cc_X8_renewHours_0)], cc_X0_hoursFor_0)
set_option maxRecDepth 20000 in
theorem hh_X0_hoursFor_0 : scH Tx invX cc_X0_hoursFor_0 := scCheck_ok (X := xx_X0_hoursFor_0) (nodes := []) (fuel := 4000) ⟨lqX0, fa_cons (⟨⟨1, _, pcv_X0_91, rfl⟩, hh_X8_renewHours_0⟩) (fa_nil)⟩ dtX0_hoursFor (by decide +kernel)
abbrev cc_X0_canBePut_0 : scC := (qX0_canBePut, 1, [(0, 7)], [.inr (.inr (.inl [32])), .inr (.inr (.inl [47])), .inl (some 0, 0)], [], [(1, (0, 1), [], [], [])], [])
set_option maxRecDepth 20000 in
abbrev xx_X0_canBePut_0 : scX := (Tx, invX, lnX0, [(38, 0, 6, cc_X6_isAlive_0)], cc_X0_canBePut_0)
set_option maxRecDepth 20000 in
theorem hh_X0_canBePut_0 : scH Tx invX cc_X0_canBePut_0 := scCheck_ok (X := xx_X0_canBePut_0) (nodes := []) (fuel := 4000) ⟨lqX0, fa_cons (⟨⟨1, _, pcv_X0_38, rfl⟩, hh_X6_isAlive_0⟩) (fa_nil)⟩ dtX0_canBePut (by decide +kernel)
abbrev cc_X0_savedRisk_0 : scC := (qX0_savedRisk, 4, [(0, 7)], [.inr (.inr (.inl [32])), .inr (.inr (.inl [47])), .inl (some 0, 0)], [], [(2, ((-9223372036854775808), 9223372036854775807), [], [], [])], [(26, 0, 24)])
set_option maxRecDepth 20000 in
abbrev xx_X0_savedRisk_0 : scX := (Tx, invX, lnX0, [(84, 0, 0, cc_X0_costWhen_0), (95, 0, 0, cc_X0_canBePut_0)], cc_X0_savedRisk_0)
set_option maxRecDepth 20000 in
theorem hh_X0_savedRisk_0 : scH Tx invX cc_X0_savedRisk_0 := scCheck_ok (X := xx_X0_savedRisk_0) (nodes := []) (fuel := 4000) ⟨lqX0, fa_cons (⟨⟨4, _, pcv_X0_84, rfl⟩, hh_X0_costWhen_0⟩) (fa_cons (⟨⟨2, _, pcv_X0_95, rfl⟩, hh_X0_canBePut_0⟩) (fa_nil))⟩ dtX0_savedRisk (by decide +kernel)
abbrev cc_X10_saves_0 : scC := (qX10_saves, 5, [((-2147483648), 2147483647), ((-2147483648), 2147483647)], [.inr (.inr (.inl [0])), .inl (some 0, 0), .inl (some 1, 0)], [], [(2, ((-9223372036854775808), 9223372036854775807), [], [], []), (4, (0, 0), [], [], []), (5, (0, 0), [], [], [])], [(0, 15, 2), (26, 0, 24)])
set_option maxRecDepth 20000 in
abbrev xx_X10_saves_0 : scX := (Tx, invX, lnX10, [(197, 0, 10, cc_X10_needLife_0), (244, 0, 10, cc_X10_needPart_0), (253, 1, 0, cc_hand_termOf), (267, 0, 0, cc_X0_hoursFor_0), (270, 0, 0, cc_X0_savedRisk_0)], cc_X10_saves_0)
set_option maxRecDepth 20000 in
theorem hh_X10_saves_0 : scH Tx invX cc_X10_saves_0 := scCheck_ok (X := xx_X10_saves_0) (nodes := []) (fuel := 4000) ⟨lqX10, fa_cons (⟨⟨1, _, pcv_X10_197, rfl⟩, hh_X10_needLife_0⟩) (fa_cons (⟨⟨1, _, pcv_X10_244, rfl⟩, hh_X10_needPart_0⟩) (fa_cons (⟨pcs_X10_253, hh_hand_termOf⟩) (fa_cons (⟨⟨2, _, pcv_X10_267, rfl⟩, hh_X0_hoursFor_0⟩) (fa_cons (⟨⟨2, _, pcv_X10_270, rfl⟩, hh_X0_savedRisk_0⟩) (fa_nil)))))⟩ dtX10_saves (by decide +kernel)
abbrev cc_X0_firstOf_0 : scC := (qX0_firstOf, 3, [(12, 12)], [.inr (.inr (.inl [32])), .inr (.inr (.inl [47])), .inr (.inr (.inl [33])), .inl (some 0, 0)], [], [(1, ((-1), 7), [], [], [])], [])
set_option maxRecDepth 20000 in
abbrev xx_X0_firstOf_0 : scX := (Tx, invX, lnX0, [(113, 0, 0, cc_X0_hoursFor_0)], cc_X0_firstOf_0)
set_option maxRecDepth 20000 in
theorem hh_X0_firstOf_0 : scH Tx invX cc_X0_firstOf_0 := scCheck_ok (X := xx_X0_firstOf_0) (nodes := [(12, ([(12, 12), ((-1), 7), (0, 9), (0, 8), (0, 8)], [some (.inr (.inr (.inl [32]))), some (.inr (.inr (.inl [47]))), some (.inr (.inr (.inl [33]))), some (.inl (some 0, 0)), some (.inl (some 1, 0)), some (.inr (.inl ((-9223372036854775808), 9223372036854775807))), none, some (.inl (some 2, 0)), some (.inl (some 3, 0)), none], [], [((3, 9), (some 4, 0))]), ([0, 0, 0, (-2)], 16))]) (fuel := 4000) ⟨lqX0, fa_cons (⟨⟨2, _, pcv_X0_113, rfl⟩, hh_X0_hoursFor_0⟩) (fa_nil)⟩ dtX0_firstOf (by decide +kernel)
abbrev cc_X0_firstOfAll_0 : scC := (qX0_firstOfAll, 5, [], [.inr (.inr (.inl [32])), .inr (.inr (.inl [47]))], [], [(1, ((-1), 7), [], [], [])], [(26, 0, 24), (33, 0, 8)])
set_option maxRecDepth 20000 in
abbrev xx_X0_firstOfAll_0 : scX := (Tx, invX, lnX0, [(105, 0, 0, cc_X0_savedRisk_0), (109, 0, 0, cc_X0_firstOf_0)], cc_X0_firstOfAll_0)
set_option maxRecDepth 20000 in
theorem hh_X0_firstOfAll_0 : scH Tx invX cc_X0_firstOfAll_0 := scCheck_ok (X := xx_X0_firstOfAll_0) (nodes := [(2, ([(0, 8), (0, 8)], [some (.inr (.inr (.inl [32]))), some (.inr (.inr (.inl [47]))), some (.inl (some 0, 0))], [], [((3, 9), (some 1, 0))]), ([(-2)], 16))]) (fuel := 4000) ⟨lqX0, fa_cons (⟨⟨2, _, pcv_X0_105, rfl⟩, hh_X0_savedRisk_0⟩) (fa_cons (⟨⟨3, _, pcv_X0_109, rfl⟩, hh_X0_firstOf_0⟩) (fa_nil))⟩ dtX0_firstOfAll (by decide +kernel)
abbrev cc_X10_first_0 : scC := (qX10_first, 6, [], [.inr (.inr (.inl [0]))], [], [(1, ((-1), 7), [], [], [])], [(26, 0, 24), (33, 0, 8)])
set_option maxRecDepth 20000 in
abbrev xx_X10_first_0 : scX := (Tx, invX, lnX10, [(273, 0, 0, cc_X0_firstOfAll_0)], cc_X10_first_0)
set_option maxRecDepth 20000 in
theorem hh_X10_first_0 : scH Tx invX cc_X10_first_0 := scCheck_ok (X := xx_X10_first_0) (nodes := []) (fuel := 4000) ⟨lqX10, fa_cons (⟨⟨1, _, pcv_X10_273, rfl⟩, hh_X0_firstOfAll_0⟩) (fa_nil)⟩ dtX10_first (by decide +kernel)
abbrev cc_X10_aheadMost_0 : scC := (qX10_aheadMost, 1, [], [.inr (.inr (.inl [0]))], [], [(1, (0, 60), [], [], [])], [])
set_option maxRecDepth 20000 in
abbrev xx_X10_aheadMost_0 : scX := (Tx, invX, lnX10, [], cc_X10_aheadMost_0)
set_option maxRecDepth 20000 in
theorem hh_X10_aheadMost_0 : scH Tx invX cc_X10_aheadMost_0 := scCheck_ok (X := xx_X10_aheadMost_0) (nodes := []) (fuel := 4000) ⟨lqX10, fa_nil⟩ dtX10_aheadMost (by decide +kernel)
abbrev cc_X10_needWithin_8 : scC := (qX10_needWithin, 0, [((-2147483648), 2147483647), (0, 0), (0, 60)], [.inr (.inr (.inl [0])), .inl (some 0, 0), .inl (some 1, 0), .inl (some 2, 0)], [], [(0, (0, 0), [], [(0, (0, 60))], []), (4, (0, 0), [], [], [])], [(0, 16, 1)])
set_option maxRecDepth 20000 in
abbrev xx_X10_needWithin_8 : scX := (Tx, invX, lnX10, [], cc_X10_needWithin_8)
set_option maxRecDepth 20000 in
theorem hh_X10_needWithin_8 : scH Tx invX cc_X10_needWithin_8 := scCheck_ok (X := xx_X10_needWithin_8) (nodes := []) (fuel := 4000) ⟨lqX10, fa_nil⟩ dtX10_needWithin (by decide +kernel)
abbrev cc_X10_ahead_0 : scC := (qX10_ahead, 5, [((-2147483648), 2147483647), ((-2147483648), 2147483647)], [.inr (.inr (.inl [0])), .inl (some 0, 0), .inl (some 1, 0)], [], [(2, ((-9223372036854775808), 9223372036854775807), [], [], []), (4, (0, 0), [], [], [])], [(0, 16, 1), (26, 0, 24)])
set_option maxRecDepth 20000 in
abbrev xx_X10_ahead_0 : scX := (Tx, invX, lnX10, [(169, 0, 10, cc_X10_needWithin_8), (244, 0, 10, cc_X10_needPart_0), (253, 1, 0, cc_hand_termOf), (261, 0, 0, cc_X0_riskWhen_0), (277, 0, 10, cc_X10_aheadMost_0)], cc_X10_ahead_0)
set_option maxRecDepth 20000 in
theorem hh_X10_ahead_0 : scH Tx invX cc_X10_ahead_0 := scCheck_ok (X := xx_X10_ahead_0) (nodes := []) (fuel := 4000) ⟨lqX10, fa_cons (⟨⟨3, _, pcv_X10_169, rfl⟩, hh_X10_needWithin_8⟩) (fa_cons (⟨⟨1, _, pcv_X10_244, rfl⟩, hh_X10_needPart_0⟩) (fa_cons (⟨pcs_X10_253, hh_hand_termOf⟩) (fa_cons (⟨⟨2, _, pcv_X10_261, rfl⟩, hh_X0_riskWhen_0⟩) (fa_cons (⟨⟨0, _, pcv_X10_277, rfl⟩, hh_X10_aheadMost_0⟩) (fa_nil)))))⟩ dtX10_ahead (by decide +kernel)
abbrev cc_X10_worst_0 : scC := (qX10_worst, 5, [], [.inr (.inr (.inl [0]))], [], [(1, (0, 2147483647), [], [], [])], [(26, 0, 24)])
set_option maxRecDepth 20000 in
abbrev xx_X10_worst_0 : scX := (Tx, invX, lnX10, [(261, 0, 0, cc_X0_riskWhen_0), (277, 0, 10, cc_X10_aheadMost_0)], cc_X10_worst_0)
set_option maxRecDepth 20000 in
theorem hh_X10_worst_0 : scH Tx invX cc_X10_worst_0 := scCheck_ok (X := xx_X10_worst_0) (nodes := [(9, ([(0, 2147483647), (0, 61)], [some (.inr (.inr (.inl [0]))), some (.inl (some 0, 0)), some (.inr (.inl ((-9223372036854775808), 9223372036854775807))), none, some (.inl (some 1, 0)), none, none], [], []), ([0, (-2)], 122))]) (fuel := 4000) ⟨lqX10, fa_cons (⟨⟨2, _, pcv_X10_261, rfl⟩, hh_X0_riskWhen_0⟩) (fa_cons (⟨⟨0, _, pcv_X10_277, rfl⟩, hh_X10_aheadMost_0⟩) (fa_nil))⟩ dtX10_worst (by decide +kernel)
abbrev cc_X10_lives_0 : scC := (qX10_lives, 2, [((-2147483648), 2147483647), ((-2147483648), 2147483647), ((-2147483648), 2147483647)], [.inr (.inr (.inl [0])), .inl (some 0, 0), .inl (some 1, 0), .inl (some 2, 0)], [], [(2, ((-9223372036854775808), 9223372036854775807), [], [], []), (4, (0, 0), [], [], []), (5, (0, 0), [], [], [])], [(0, 15, 2)])
set_option maxRecDepth 20000 in
abbrev xx_X10_lives_0 : scX := (Tx, invX, lnX10, [(169, 0, 10, cc_X10_needWithin_1), (197, 0, 10, cc_X10_needLife_0), (215, 0, 6, cc_X6_isAlive_0), (244, 0, 10, cc_X10_needPart_0), (253, 1, 0, cc_hand_termOf)], cc_X10_lives_0)
set_option maxRecDepth 20000 in
theorem hh_X10_lives_0 : scH Tx invX cc_X10_lives_0 := scCheck_ok (X := xx_X10_lives_0) (nodes := [(45, ([(0, 7), (0, 8), (0, 1), (0, 8)], [some (.inr (.inr (.inl [0]))), some (.inl (some 0, 0)), some (.inl (some 1, 0)), some (.inl (some 2, 0)), some (.inr (.inl ((-9223372036854775808), 9223372036854775807))), none, some (.inl (some 3, 0))], [], []), ([0, 0, 0, (-2)], 16))]) (fuel := 4000) ⟨lqX10, fa_cons (⟨⟨3, _, pcv_X10_169, rfl⟩, hh_X10_needWithin_1⟩) (fa_cons (⟨⟨1, _, pcv_X10_197, rfl⟩, hh_X10_needLife_0⟩) (fa_cons (⟨⟨1, _, pcv_X10_215, rfl⟩, hh_X6_isAlive_0⟩) (fa_cons (⟨⟨1, _, pcv_X10_244, rfl⟩, hh_X10_needPart_0⟩) (fa_cons (⟨pcs_X10_253, hh_hand_termOf⟩) (fa_nil)))))⟩ dtX10_lives (by decide +kernel)
abbrev cc_X10_due_0 : scC := (qX10_due, 3, [((-2147483648), 2147483647), ((-2147483648), 2147483647)], [.inr (.inr (.inl [0])), .inl (some 0, 0), .inl (some 1, 0)], [], [(1, ((-1), 60), [], [], []), (4, (0, 0), [], [], []), (5, (0, 0), [], [], [])], [(0, 15, 2), (26, 0, 24)])
set_option maxRecDepth 20000 in
abbrev xx_X10_due_0 : scX := (Tx, invX, lnX10, [(169, 0, 10, cc_X10_needWithin_7), (197, 0, 10, cc_X10_needLife_0), (229, 0, 0, cc_X0_wrongWhen_0), (229, 0, 0, cc_X0_wrongWhen_1), (277, 0, 10, cc_X10_aheadMost_0)], cc_X10_due_0)
set_option maxRecDepth 20000 in
theorem hh_X10_due_0 : scH Tx invX cc_X10_due_0 := scCheck_ok (X := xx_X10_due_0) (nodes := [(36, ([(0, 7), (0, 65), ((-2147483648), 2147483647), (0, 61)], [some (.inr (.inr (.inl [0]))), some (.inl (some 0, 0)), some (.inl (some 1, 0)), some (.inl (some 2, 0)), some (.inl (some 3, 0))], [], []), ([0, 0, 0, (-2)], 122))]) (fuel := 4000) ⟨lqX10, fa_cons (⟨⟨3, _, pcv_X10_169, rfl⟩, hh_X10_needWithin_7⟩) (fa_cons (⟨⟨1, _, pcv_X10_197, rfl⟩, hh_X10_needLife_0⟩) (fa_cons (⟨⟨4, _, pcv_X10_229, rfl⟩, hh_X0_wrongWhen_0⟩) (fa_cons (⟨⟨4, _, pcv_X10_229, rfl⟩, hh_X0_wrongWhen_1⟩) (fa_cons (⟨⟨0, _, pcv_X10_277, rfl⟩, hh_X10_aheadMost_0⟩) (fa_nil)))))⟩ dtX10_due (by decide +kernel)
abbrev cc_X8_nextChange_0 : scC := (qX8_nextChange, 0, [((-2147483648), 2147483647), ((-2147483648), 2147483647)], [.inr (.inr (.inl [3])), .inl (some 0, 0), .inl (some 1, 0)], [], [(1, ((-1), 60), [], [], [])], [])
set_option maxRecDepth 20000 in
abbrev xx_X8_nextChange_0 : scX := (Tx, invX, lnX8, [], cc_X8_nextChange_0)
set_option maxRecDepth 20000 in
theorem hh_X8_nextChange_0 : scH Tx invX cc_X8_nextChange_0 := scCheck_ok (X := xx_X8_nextChange_0) (nodes := [(5, ([((-2147483648), 2147483647), ((-2147483648), 2147483647), ((-1), 60), (0, 24), (0, 60), (0, 7), (0, 24)], [some (.inr (.inr (.inl [3]))), some (.inl (some 0, 0)), some (.inl (some 1, 0)), some (.inl (some 2, 0)), some (.inl (some 3, 0)), none], [], [((12, 0), (some 4, 0)), ((10, 0), (some 5, 0)), ((3, 10), (some 6, 0))]), ([0, 0, 0, (-2)], 48))]) (fuel := 4000) ⟨lqX8, fa_nil⟩ dtX8_nextChange (by decide +kernel)
abbrev cc_X10_news_0 : scC := (qX10_news, 1, [((-2147483648), 2147483647)], [.inr (.inr (.inl [0])), .inl (some 0, 0)], [], [(1, ((-1), 60), [], [], []), (5, (0, 0), [], [], [])], [(0, 15, 1)])
set_option maxRecDepth 20000 in
abbrev xx_X10_news_0 : scX := (Tx, invX, lnX10, [(197, 0, 10, cc_X10_needLife_0), (283, 0, 8, cc_X8_nextChange_0)], cc_X10_news_0)
set_option maxRecDepth 20000 in
theorem hh_X10_news_0 : scH Tx invX cc_X10_news_0 := scCheck_ok (X := xx_X10_news_0) (nodes := []) (fuel := 4000) ⟨lqX10, fa_cons (⟨⟨1, _, pcv_X10_197, rfl⟩, hh_X10_needLife_0⟩) (fa_cons (⟨⟨2, _, pcv_X10_283, rfl⟩, hh_X8_nextChange_0⟩) (fa_nil))⟩ dtX10_news (by decide +kernel)
abbrev cc_X0_lossAhead_0 : scC := (qX0_lossAhead, 4, [(0, 7), (0, 7), (0, 7)], [.inr (.inr (.inl [32])), .inr (.inr (.inl [47])), .inl (some 0, 0), .inl (some 1, 0), .inl (some 2, 0)], [], [(2, ((-9223372036854775808), 9223372036854775807), [], [], [])], [(26, 0, 24)])
set_option maxRecDepth 20000 in
abbrev xx_X0_lossAhead_0 : scX := (Tx, invX, lnX0, [(84, 0, 0, cc_X0_costWhen_0)], cc_X0_lossAhead_0)
set_option maxRecDepth 20000 in
theorem hh_X0_lossAhead_0 : scH Tx invX cc_X0_lossAhead_0 := scCheck_ok (X := xx_X0_lossAhead_0) (nodes := [(29, ([(0, 7), (0, 7), (0, 7), ((-2147483648), 2147483647), (0, 7)], [some (.inr (.inr (.inl [32]))), some (.inr (.inr (.inl [47]))), some (.inl (some 0, 0)), some (.inl (some 1, 0)), some (.inl (some 2, 0)), some (.inr (.inl (0, 64))), none, some (.inr (.inl ((-9223372036854775808), 9223372036854775807))), none, some (.inr (.inl ((-9223372036854775808), 9223372036854775807))), none, some (.inl (some 3, 0)), some (.inl (some 4, 0))], [], []), ([0, 0, 0, 0, (-2)], 14))]) (fuel := 4000) ⟨lqX0, fa_cons (⟨⟨4, _, pcv_X0_84, rfl⟩, hh_X0_costWhen_0⟩) (fa_nil)⟩ dtX0_lossAhead (by decide +kernel)
abbrev cc_X10_expects_0 : scC := (qX10_expects, 5, [((-2147483648), 2147483647), ((-2147483648), 2147483647), ((-2147483648), 2147483647)], [.inr (.inr (.inl [0])), .inl (some 0, 0), .inl (some 1, 0), .inl (some 2, 0)], [], [(2, ((-9223372036854775808), 9223372036854775807), [], [], []), (4, (0, 0), [], [], []), (5, (0, 0), [], [], [])], [(0, 15, 2), (26, 0, 24)])
set_option maxRecDepth 20000 in
abbrev xx_X10_expects_0 : scX := (Tx, invX, lnX10, [(169, 0, 10, cc_X10_needWithin_2), (197, 0, 10, cc_X10_needLife_0), (215, 0, 6, cc_X6_isAlive_0), (244, 0, 10, cc_X10_needPart_0), (253, 1, 0, cc_hand_termOf), (286, 0, 0, cc_X0_lossAhead_0)], cc_X10_expects_0)
set_option maxRecDepth 20000 in
theorem hh_X10_expects_0 : scH Tx invX cc_X10_expects_0 := scCheck_ok (X := xx_X10_expects_0) (nodes := []) (fuel := 4000) ⟨lqX10, fa_cons (⟨⟨3, _, pcv_X10_169, rfl⟩, hh_X10_needWithin_2⟩) (fa_cons (⟨⟨1, _, pcv_X10_197, rfl⟩, hh_X10_needLife_0⟩) (fa_cons (⟨⟨1, _, pcv_X10_215, rfl⟩, hh_X6_isAlive_0⟩) (fa_cons (⟨⟨1, _, pcv_X10_244, rfl⟩, hh_X10_needPart_0⟩) (fa_cons (⟨pcs_X10_253, hh_hand_termOf⟩) (fa_cons (⟨⟨4, _, pcv_X10_286, rfl⟩, hh_X0_lossAhead_0⟩) (fa_nil))))))⟩ dtX10_expects (by decide +kernel)
abbrev cc_X10_needWithin_9 : scC := (qX10_needWithin, 0, [((-2147483648), 2147483647), (1, 1), (3, 3)], [.inr (.inr (.inl [0])), .inl (some 0, 0), .inl (some 1, 0), .inl (some 2, 0)], [], [(0, (0, 0), [], [(0, (1, 3))], []), (4, (0, 0), [], [], [])], [(0, 16, 1)])
set_option maxRecDepth 20000 in
abbrev xx_X10_needWithin_9 : scX := (Tx, invX, lnX10, [], cc_X10_needWithin_9)
set_option maxRecDepth 20000 in
theorem hh_X10_needWithin_9 : scH Tx invX cc_X10_needWithin_9 := scCheck_ok (X := xx_X10_needWithin_9) (nodes := []) (fuel := 4000) ⟨lqX10, fa_nil⟩ dtX10_needWithin (by decide +kernel)
abbrev cc_J7_fill_d0a16_0 : scC := (qJ7_fill_d0a16, 0, [], [.inr (.inr (.inl [35])), .inr (.inl ((-9223372036854775808), 9223372036854775807))], [], [(0, (0, 0), [], [], [])], [(35, 0, 2197)])
set_option maxRecDepth 20000 in
abbrev xx_J7_fill_d0a16_0 : scX := (Tx, invX, lnJ7, [], cc_J7_fill_d0a16_0)
set_option maxRecDepth 20000 in
theorem hh_J7_fill_d0a16_0 : scH Tx invX cc_J7_fill_d0a16_0 := scCheck_ok (X := xx_J7_fill_d0a16_0) (nodes := [(6, ([(0, 2197), (2197, 2197)], [some (.inr (.inr (.inl [35]))), some (.inr (.inl ((-9223372036854775808), 9223372036854775807))), none, some (.inl (some 0, 0)), some (.inl (some 1, 0))], [], []), ([(-2)], 4394))]) (fuel := 4000) ⟨lqJ7, fa_nil⟩ dtJ7_fill_d0a16 (by decide +kernel)
abbrev cc_X3_hoursAtAge_0 : scC := (qX3_hoursAtAge, 2, [(0, 7), ((-2147483648), 2147483647)], [.inr (.inr (.inl [34])), .inl (some 0, 0), .inl (some 1, 0)], [], [(1, (0, 99), [], [], [])], [])
set_option maxRecDepth 20000 in
abbrev xx_X3_hoursAtAge_0 : scX := (Tx, invX, lnX3, [(106, 0, 8, cc_X8_renewHours_0)], cc_X3_hoursAtAge_0)
set_option maxRecDepth 20000 in
theorem hh_X3_hoursAtAge_0 : scH Tx invX cc_X3_hoursAtAge_0 := scCheck_ok (X := xx_X3_hoursAtAge_0) (nodes := []) (fuel := 4000) ⟨lqX3, fa_cons (⟨⟨1, _, pcv_X3_106, rfl⟩, hh_X8_renewHours_0⟩) (fa_nil)⟩ dtX3_hoursAtAge (by decide +kernel)
abbrev cc_X3_keyShift_0 : scC := (qX3_keyShift, 0, [(0, 0)], [.inl (some 0, 0)], [], [(1, (16, 16), [], [], [])], [])
set_option maxRecDepth 20000 in
abbrev xx_X3_keyShift_0 : scX := (Tx, invX, lnX3, [], cc_X3_keyShift_0)
set_option maxRecDepth 20000 in
theorem hh_X3_keyShift_0 : scH Tx invX cc_X3_keyShift_0 := scCheck_ok (X := xx_X3_keyShift_0) (nodes := []) (fuel := 4000) ⟨lqX3, fa_nil⟩ dtX3_keyShift (by decide +kernel)
abbrev cc_X3_keyShift_1 : scC := (qX3_keyShift, 0, [(0, 1)], [.inl (some 0, 0)], [], [(1, (8, 16), [], [], [])], [])
set_option maxRecDepth 20000 in
abbrev xx_X3_keyShift_1 : scX := (Tx, invX, lnX3, [], cc_X3_keyShift_1)
set_option maxRecDepth 20000 in
theorem hh_X3_keyShift_1 : scH Tx invX cc_X3_keyShift_1 := scCheck_ok (X := xx_X3_keyShift_1) (nodes := []) (fuel := 4000) ⟨lqX3, fa_nil⟩ dtX3_keyShift (by decide +kernel)
abbrev cc_X3_keyShift_2 : scC := (qX3_keyShift, 0, [(0, 2)], [.inl (some 0, 0)], [], [(1, (0, 16), [], [], [])], [])
set_option maxRecDepth 20000 in
abbrev xx_X3_keyShift_2 : scX := (Tx, invX, lnX3, [], cc_X3_keyShift_2)
set_option maxRecDepth 20000 in
theorem hh_X3_keyShift_2 : scH Tx invX cc_X3_keyShift_2 := scCheck_ok (X := xx_X3_keyShift_2) (nodes := []) (fuel := 4000) ⟨lqX3, fa_nil⟩ dtX3_keyShift (by decide +kernel)
abbrev cc_X0_lossAhead_1 : scC := (qX0_lossAhead, 4, [(0, 7), ((-2147483648), 2147483647), (0, 7)], [.inr (.inr (.inl [32])), .inr (.inr (.inl [47])), .inl (some 0, 0), .inl (some 1, 0), .inl (some 2, 0)], [], [(2, ((-9223372036854775808), 9223372036854775807), [], [], [])], [(26, 0, 24)])
set_option maxRecDepth 20000 in
abbrev xx_X0_lossAhead_1 : scX := (Tx, invX, lnX0, [(84, 0, 0, cc_X0_costWhen_0), (84, 0, 0, cc_X0_costWhen_1)], cc_X0_lossAhead_1)
set_option maxRecDepth 20000 in
theorem hh_X0_lossAhead_1 : scH Tx invX cc_X0_lossAhead_1 := scCheck_ok (X := xx_X0_lossAhead_1) (nodes := [(29, ([(0, 7), ((-2147483648), 2147483647), (0, 7), ((-2147483648), 2147483647), (0, 2147483647)], [some (.inr (.inr (.inl [32]))), some (.inr (.inr (.inl [47]))), some (.inl (some 0, 0)), some (.inl (some 1, 0)), some (.inl (some 2, 0)), some (.inr (.inl (0, 64))), none, some (.inr (.inl ((-9223372036854775808), 9223372036854775807))), none, some (.inr (.inl ((-9223372036854775808), 9223372036854775807))), none, some (.inl (some 3, 0)), some (.inl (some 4, 0))], [], []), ([0, 0, 0, 0, (-2)], 4294967294))]) (fuel := 4000) ⟨lqX0, fa_cons (⟨⟨4, _, pcv_X0_84, rfl⟩, hh_X0_costWhen_0⟩) (fa_cons (⟨⟨4, _, pcv_X0_84, rfl⟩, hh_X0_costWhen_1⟩) (fa_nil))⟩ dtX0_lossAhead (by decide +kernel)
abbrev cc_X3_weighWays_0 : scC := (qX3_weighWays, 5, [(0, 7), ((-2147483648), 2147483647)], [.inr (.inr (.inl [34])), .inr (.inr (.inl [47])), .inl (some 0, 0), .inl (some 1, 0)], [], [(0, (0, 0), [], [], [])], [(26, 0, 24), (36, 0, 8), (37, 0, 24)])
set_option maxRecDepth 20000 in
abbrev xx_X3_weighWays_0 : scX := (Tx, invX, lnX3, [(37, 1, 0, cc_X3_keyShift_0), (37, 1, 0, cc_X3_keyShift_1), (37, 1, 0, cc_X3_keyShift_2), (97, 0, 3, cc_X3_hoursAtAge_0), (100, 0, 0, cc_X0_lossAhead_1)], cc_X3_weighWays_0)
set_option maxRecDepth 20000 in
theorem hh_X3_weighWays_0 : scH Tx invX cc_X3_weighWays_0 := scCheck_ok (X := xx_X3_weighWays_0) (nodes := [(3, ([(0, 7), ((-2147483648), 2147483647), (0, 8), (0, 99)], [some (.inr (.inr (.inl [34]))), some (.inr (.inr (.inl [47]))), some (.inl (some 0, 0)), some (.inl (some 1, 0)), some (.inl (some 2, 0)), none, none, none, none, none], [], [((37, 0), (some 3, 0))]), ([0, 0, (-10)], 88)), (32, ([(0, 7), ((-2147483648), 2147483647), (0, 7), ((-2147483648), 2147483647), (0, 3), (0, 99)], [some (.inr (.inr (.inl [34]))), some (.inr (.inr (.inl [47]))), some (.inl (some 0, 0)), some (.inl (some 1, 0)), some (.inl (some 2, 0)), some (.inr (.inl ((-9223372036854775808), 9223372036854775807))), none, some (.inl (some 3, 0)), some (.inl (some 4, 0)), none], [], [((37, 0), (some 5, 0))]), ([0, 0, (-10), 0, (-2)], 86))]) (fuel := 4000) ⟨lqX3, fa_cons (⟨pcs_X3_37, hh_X3_keyShift_0⟩) (fa_cons (⟨pcs_X3_37, hh_X3_keyShift_1⟩) (fa_cons (⟨pcs_X3_37, hh_X3_keyShift_2⟩) (fa_cons (⟨⟨2, _, pcv_X3_97, rfl⟩, hh_X3_hoursAtAge_0⟩) (fa_cons (⟨⟨4, _, pcv_X3_100, rfl⟩, hh_X0_lossAhead_1⟩) (fa_nil)))))⟩ dtX3_weighWays (by decide +kernel)
abbrev cc_X3_cellOf_0 : scC := (qX3_cellOf, 0, [(0, 12), (0, 12), (0, 12)], [.inl (some 0, 0), .inl (some 1, 0), .inl (some 2, 0)], [], [(1, (0, 2196), [], [], [])], [])
set_option maxRecDepth 20000 in
abbrev xx_X3_cellOf_0 : scX := (Tx, invX, lnX3, [], cc_X3_cellOf_0)
set_option maxRecDepth 20000 in
theorem hh_X3_cellOf_0 : scH Tx invX cc_X3_cellOf_0 := scCheck_ok (X := xx_X3_cellOf_0) (nodes := []) (fuel := 4000) ⟨lqX3, fa_nil⟩ dtX3_cellOf (by decide +kernel)
abbrev cc_X3_cellOf_1 : scC := (qX3_cellOf, 0, [((-2147483648), 2147483647), ((-2147483648), 2147483647), ((-2147483648), 2147483647)], [.inl (some 0, 0), .inl (some 1, 0), .inl (some 2, 0)], [], [(1, ((-2147483648), 2147483647), [], [], [])], [])
set_option maxRecDepth 20000 in
abbrev xx_X3_cellOf_1 : scX := (Tx, invX, lnX3, [], cc_X3_cellOf_1)
set_option maxRecDepth 20000 in
theorem hh_X3_cellOf_1 : scH Tx invX cc_X3_cellOf_1 := scCheck_ok (X := xx_X3_cellOf_1) (nodes := []) (fuel := 4000) ⟨lqX3, fa_nil⟩ dtX3_cellOf (by decide +kernel)
abbrev cc_X3_leastOf_0 : scC := (qX3_leastOf, 1, [((-2147483648), 2147483647), (0, 12), (0, 12), (0, 12)], [.inr (.inr (.inl [34])), .inl (some 0, 0), .inl (some 1, 0), .inl (some 2, 0), .inl (some 3, 0)], [], [(2, ((-9223372036854775808), 9223372036854775807), [], [], [])], [])
set_option maxRecDepth 20000 in
abbrev xx_X3_leastOf_0 : scX := (Tx, invX, lnX3, [(90, 1, 0, cc_X3_cellOf_0)], cc_X3_leastOf_0)
set_option maxRecDepth 20000 in
theorem hh_X3_leastOf_0 : scH Tx invX cc_X3_leastOf_0 := scCheck_ok (X := xx_X3_leastOf_0) (nodes := [(24, ([((-2147483648), 2147483647), (0, 12), (0, 12), (0, 12), (1, 8), (0, 99), (0, 99), (0, 99)], [some (.inr (.inr (.inl [34]))), some (.inl (some 0, 0)), some (.inl (some 1, 0)), some (.inl (some 2, 0)), some (.inl (some 3, 0)), some (.inr (.inl ((-9223372036854775808), 9223372036854775807))), none, some (.inl (some 4, 0)), none, none, none], [], [((37, 5), (some 5, 0)), ((37, 4), (some 6, 0)), ((37, 3), (some 7, 0))]), ([0, 0, 0, 0, (-2)], 16))]) (fuel := 4000) ⟨lqX3, fa_cons (⟨pcs_X3_90, hh_X3_cellOf_0⟩) (fa_nil)⟩ dtX3_leastOf (by decide +kernel)
abbrev cc_X3_addLife_0 : scC := (qX3_addLife, 2, [((-2147483648), 2147483647)], [.inr (.inr (.inl [34])), .inl (some 0, 0)], [], [(0, (0, 0), [], [], [])], [(35, 0, 2197)])
set_option maxRecDepth 20000 in
abbrev xx_X3_addLife_0 : scX := (Tx, invX, lnX3, [(90, 1, 0, cc_X3_cellOf_0), (109, 0, 3, cc_X3_leastOf_0)], cc_X3_addLife_0)
set_option maxRecDepth 20000 in
theorem hh_X3_addLife_0 : scH Tx invX cc_X3_addLife_0 := scCheck_ok (X := xx_X3_addLife_0) (nodes := [(7, ([((-2147483648), 2147483647), ((-1), 12), (0, 12), (0, 12), (0, 12)], [some (.inr (.inr (.inl [34]))), some (.inl (some 0, 0)), some (.inl (some 1, 0)), none, none], [], [((38, 0), (some 2, 0)), ((38, 1), (some 3, 0)), ((38, 2), (some 4, 0))]), ([0, 422], 842)), (18, ([((-2147483648), 2147483647), (0, 12), ((-1), 12), (0, 12), (0, 12), (0, 12)], [some (.inr (.inr (.inl [34]))), some (.inl (some 0, 0)), some (.inl (some 1, 0)), some (.inl (some 2, 0)), none], [], [((38, 1), (some 3, 0)), ((38, 0), (some 4, 0)), ((38, 2), (some 5, 0))]), ([0, 422, 30], 480)), (30, ([((-2147483648), 2147483647), (0, 12), (0, 12), ((-1), 12), (0, 12), (0, 12), (0, 12)], [some (.inr (.inr (.inl [34]))), some (.inl (some 0, 0)), some (.inl (some 1, 0)), some (.inl (some 2, 0)), some (.inl (some 3, 0))], [], [((38, 2), (some 4, 0)), ((38, 1), (some 5, 0)), ((38, 0), (some 6, 0))]), ([0, 422, 30, 2], 454))]) (fuel := 4000) ⟨lqX3, fa_cons (⟨pcs_X3_90, hh_X3_cellOf_0⟩) (fa_cons (⟨⟨4, _, pcv_X3_109, rfl⟩, hh_X3_leastOf_0⟩) (fa_nil))⟩ dtX3_addLife (by decide +kernel)
abbrev cc_X3_prepare_0 : scC := (qX3_prepare, 6, [((-2147483648), 2147483647)], [.inr (.inr (.inl [34])), .inr (.inr (.inl [47])), .inl (some 0, 0)], [], [(0, (0, 0), [], [], [])], [(26, 0, 24), (34, 5, 2), (35, 0, 2197), (36, 0, 8), (37, 0, 24), (38, 0, 3)])
set_option maxRecDepth 20000 in
abbrev xx_X3_prepare_0 : scX := (Tx, invX, lnX3, [(41, 1, 0, cc_J7_fill_d0a16_0), (75, 0, 6, cc_X6_isAlive_0), (82, 0, 3, cc_X3_weighWays_0), (86, 0, 3, cc_X3_addLife_0), (90, 1, 0, cc_X3_cellOf_0)], cc_X3_prepare_0)
set_option maxRecDepth 20000 in
theorem hh_X3_prepare_0 : scH Tx invX cc_X3_prepare_0 := scCheck_ok (X := xx_X3_prepare_0) (nodes := [(19, ([((-2147483648), 2147483647), (0, 3), ((-2147483648), 2147483647), (0, 12), ((-2147483648), 2147483647), (0, 12), ((-1), 12)], [some (.inr (.inr (.inl [34]))), some (.inr (.inr (.inl [47]))), some (.inl (some 0, 0)), some (.inl (some 1, 0)), none], [], [((34, 5), (some 2, 0)), ((38, 0), (some 3, 0)), ((47, 3), (some 4, 0)), ((38, 1), (some 5, 0)), ((3, 11), (some 6, 0))]), ([0, (-2)], 24)), (81, ([((-2147483648), 2147483647), (0, 8), ((-2147483648), 2147483647), (0, 12), ((-2147483648), 2147483647), (0, 12), ((-1), 12), (0, 64), (0, 8)], [some (.inr (.inr (.inl [34]))), some (.inr (.inr (.inl [47]))), some (.inl (some 0, 0)), some (.inl (some 1, 0)), none], [], [((34, 5), (some 2, 0)), ((38, 0), (some 3, 0)), ((47, 3), (some 4, 0)), ((38, 1), (some 5, 0)), ((3, 11), (some 6, 0)), ((5, 0), (some 7, 0)), ((3, 9), (some 8, 0))]), ([0, (-2)], 16))]) (fuel := 4000) ⟨lqX3, fa_cons (⟨pcs_X3_41, hh_J7_fill_d0a16_0⟩) (fa_cons (⟨⟨1, _, pcv_X3_75, rfl⟩, hh_X6_isAlive_0⟩) (fa_cons (⟨⟨3, _, pcv_X3_82, rfl⟩, hh_X3_weighWays_0⟩) (fa_cons (⟨⟨1, _, pcv_X3_86, rfl⟩, hh_X3_addLife_0⟩) (fa_cons (⟨pcs_X3_90, hh_X3_cellOf_0⟩) (fa_nil)))))⟩ dtX3_prepare (by decide +kernel)
abbrev cc_X3_leastLoss_0 : scC := (qX3_leastLoss, 0, [], [.inr (.inr (.inl [34]))], [], [(2, ((-9223372036854775808), 9223372036854775807), [], [], [])], [])
set_option maxRecDepth 20000 in
abbrev xx_X3_leastLoss_0 : scX := (Tx, invX, lnX3, [], cc_X3_leastLoss_0)
set_option maxRecDepth 20000 in
theorem hh_X3_leastLoss_0 : scH Tx invX cc_X3_leastLoss_0 := scCheck_ok (X := xx_X3_leastLoss_0) (nodes := []) (fuel := 4000) ⟨lqX3, fa_nil⟩ dtX3_leastLoss (by decide +kernel)
abbrev cc_X10_best_0 : scC := (qX10_best, 7, [((-2147483648), 2147483647), ((-2147483648), 2147483647)], [.inr (.inr (.inl [0])), .inl (some 0, 0), .inl (some 1, 0)], [], [(2, ((-9223372036854775808), 9223372036854775807), [], [], []), (4, (0, 0), [], [], [])], [(0, 16, 1), (26, 0, 24), (34, 5, 2), (35, 0, 2197), (36, 0, 8), (37, 0, 24), (38, 0, 3)])
set_option maxRecDepth 20000 in
abbrev xx_X10_best_0 : scX := (Tx, invX, lnX10, [(169, 0, 10, cc_X10_needWithin_9), (244, 0, 10, cc_X10_needPart_0), (253, 1, 0, cc_hand_termOf), (289, 0, 3, cc_X3_prepare_0), (293, 0, 3, cc_X3_leastLoss_0)], cc_X10_best_0)
set_option maxRecDepth 20000 in
theorem hh_X10_best_0 : scH Tx invX cc_X10_best_0 := scCheck_ok (X := xx_X10_best_0) (nodes := []) (fuel := 4000) ⟨lqX10, fa_cons (⟨⟨3, _, pcv_X10_169, rfl⟩, hh_X10_needWithin_9⟩) (fa_cons (⟨⟨1, _, pcv_X10_244, rfl⟩, hh_X10_needPart_0⟩) (fa_cons (⟨pcs_X10_253, hh_hand_termOf⟩) (fa_cons (⟨⟨2, _, pcv_X10_289, rfl⟩, hh_X3_prepare_0⟩) (fa_cons (⟨⟨0, _, pcv_X10_293, rfl⟩, hh_X3_leastLoss_0⟩) (fa_nil)))))⟩ dtX10_best (by decide +kernel)
abbrev cc_X10_needWithin_10 : scC := (qX10_needWithin, 0, [((-2147483648), 2147483647), (0, 0), (0, 2)], [.inr (.inr (.inl [0])), .inl (some 0, 0), .inl (some 1, 0), .inl (some 2, 0)], [], [(0, (0, 0), [], [(0, (0, 2))], []), (4, (0, 0), [], [], [])], [(0, 16, 1)])
set_option maxRecDepth 20000 in
abbrev xx_X10_needWithin_10 : scX := (Tx, invX, lnX10, [], cc_X10_needWithin_10)
set_option maxRecDepth 20000 in
theorem hh_X10_needWithin_10 : scH Tx invX cc_X10_needWithin_10 := scCheck_ok (X := xx_X10_needWithin_10) (nodes := []) (fuel := 4000) ⟨lqX10, fa_nil⟩ dtX10_needWithin (by decide +kernel)
abbrev cc_X3_writtenIn_0 : scC := (qX3_writtenIn, 1, [(0, 2)], [.inr (.inr (.inl [34])), .inl (some 0, 0)], [], [(1, (0, 255), [], [], [])], [])
set_option maxRecDepth 20000 in
abbrev xx_X3_writtenIn_0 : scX := (Tx, invX, lnX3, [(37, 1, 0, cc_X3_keyShift_2)], cc_X3_writtenIn_0)
set_option maxRecDepth 20000 in
theorem hh_X3_writtenIn_0 : scH Tx invX cc_X3_writtenIn_0 := scCheck_ok (X := xx_X3_writtenIn_0) (nodes := []) (fuel := 4000) ⟨lqX3, fa_cons (⟨pcs_X3_37, hh_X3_keyShift_2⟩) (fa_nil)⟩ dtX3_writtenIn (by decide +kernel)
abbrev cc_X10_bestIn_0 : scC := (qX10_bestIn, 7, [((-2147483648), 2147483647), ((-2147483648), 2147483647)], [.inr (.inr (.inl [0])), .inl (some 0, 0), .inl (some 1, 0)], [], [(1, (0, 255), [], [], []), (4, (0, 0), [], [], [])], [(0, 16, 1), (26, 0, 24), (34, 5, 2), (35, 0, 2197), (36, 0, 8), (37, 0, 24), (38, 0, 3)])
set_option maxRecDepth 20000 in
abbrev xx_X10_bestIn_0 : scX := (Tx, invX, lnX10, [(169, 0, 10, cc_X10_needWithin_9), (169, 0, 10, cc_X10_needWithin_10), (289, 0, 3, cc_X3_prepare_0), (297, 0, 3, cc_X3_writtenIn_0)], cc_X10_bestIn_0)
set_option maxRecDepth 20000 in
theorem hh_X10_bestIn_0 : scH Tx invX cc_X10_bestIn_0 := scCheck_ok (X := xx_X10_bestIn_0) (nodes := []) (fuel := 4000) ⟨lqX10, fa_cons (⟨⟨3, _, pcv_X10_169, rfl⟩, hh_X10_needWithin_9⟩) (fa_cons (⟨⟨3, _, pcv_X10_169, rfl⟩, hh_X10_needWithin_10⟩) (fa_cons (⟨⟨2, _, pcv_X10_289, rfl⟩, hh_X3_prepare_0⟩) (fa_cons (⟨⟨1, _, pcv_X10_297, rfl⟩, hh_X3_writtenIn_0⟩) (fa_nil))))⟩ dtX10_bestIn (by decide +kernel)
abbrev cc_X10_needWithin_11 : scC := (qX10_needWithin, 0, [((-2147483648), 2147483647), (0, 0), (999, 999)], [.inr (.inr (.inl [0])), .inl (some 0, 0), .inl (some 1, 0), .inl (some 2, 0)], [], [(0, (0, 0), [], [(0, (0, 999))], []), (4, (0, 0), [], [], [])], [(0, 16, 1)])
set_option maxRecDepth 20000 in
abbrev xx_X10_needWithin_11 : scX := (Tx, invX, lnX10, [], cc_X10_needWithin_11)
set_option maxRecDepth 20000 in
theorem hh_X10_needWithin_11 : scH Tx invX cc_X10_needWithin_11 := scCheck_ok (X := xx_X10_needWithin_11) (nodes := []) (fuel := 4000) ⟨lqX10, fa_nil⟩ dtX10_needWithin (by decide +kernel)
abbrev cc_X0_riskAtAge_0 : scC := (qX0_riskAtAge, 2, [(0, 7), (0, 7)], [.inr (.inr (.inl [32])), .inr (.inr (.inl [47])), .inl (some 0, 0), .inl (some 1, 0)], [], [(2, ((-9223372036854775808), 9223372036854775807), [], [], [])], [(26, 0, 24)])
set_option maxRecDepth 20000 in
abbrev xx_X0_riskAtAge_0 : scX := (Tx, invX, lnX0, [(46, 0, 0, cc_X0_yearsWhen_0), (53, 0, 0, cc_X0_signerDead_0), (57, 0, 1, cc_X1_outcome_0)], cc_X0_riskAtAge_0)
set_option maxRecDepth 20000 in
theorem hh_X0_riskAtAge_0 : scH Tx invX cc_X0_riskAtAge_0 := scCheck_ok (X := xx_X0_riskAtAge_0) (nodes := []) (fuel := 4000) ⟨lqX0, fa_cons (⟨⟨3, _, pcv_X0_46, rfl⟩, hh_X0_yearsWhen_0⟩) (fa_cons (⟨⟨2, _, pcv_X0_53, rfl⟩, hh_X0_signerDead_0⟩) (fa_cons (⟨⟨5, _, pcv_X0_57, rfl⟩, hh_X1_outcome_0⟩) (fa_nil)))⟩ dtX0_riskAtAge (by decide +kernel)
abbrev cc_X10_renewalPrice_0 : scC := (qX10_renewalPrice, 2, [(0, 7), ((-2147483648), 2147483647)], [.inr (.inr (.inl [0])), .inl (some 0, 0), .inl (some 1, 0)], [], [(2, ((-9223372036854775808), 9223372036854775807), [], [], [])], [])
set_option maxRecDepth 20000 in
abbrev xx_X10_renewalPrice_0 : scX := (Tx, invX, lnX10, [(212, 0, 8, cc_X8_renewHours_0)], cc_X10_renewalPrice_0)
set_option maxRecDepth 20000 in
theorem hh_X10_renewalPrice_0 : scH Tx invX cc_X10_renewalPrice_0 := scCheck_ok (X := xx_X10_renewalPrice_0) (nodes := []) (fuel := 4000) ⟨lqX10, fa_cons (⟨⟨1, _, pcv_X10_212, rfl⟩, hh_X8_renewHours_0⟩) (fa_nil)⟩ dtX10_renewalPrice (by decide +kernel)
abbrev cc_X0_riskAtAge_1 : scC := (qX0_riskAtAge, 2, [(0, 7), ((-2147483648), 2147483647)], [.inr (.inr (.inl [32])), .inr (.inr (.inl [47])), .inl (some 0, 0), .inl (some 1, 0)], [], [(2, ((-9223372036854775808), 9223372036854775807), [], [], [])], [(26, 0, 24)])
set_option maxRecDepth 20000 in
abbrev xx_X0_riskAtAge_1 : scX := (Tx, invX, lnX0, [(46, 0, 0, cc_X0_yearsWhen_0), (53, 0, 0, cc_X0_signerDead_0), (57, 0, 1, cc_X1_outcome_0)], cc_X0_riskAtAge_1)
set_option maxRecDepth 20000 in
theorem hh_X0_riskAtAge_1 : scH Tx invX cc_X0_riskAtAge_1 := scCheck_ok (X := xx_X0_riskAtAge_1) (nodes := []) (fuel := 4000) ⟨lqX0, fa_cons (⟨⟨3, _, pcv_X0_46, rfl⟩, hh_X0_yearsWhen_0⟩) (fa_cons (⟨⟨2, _, pcv_X0_53, rfl⟩, hh_X0_signerDead_0⟩) (fa_cons (⟨⟨5, _, pcv_X0_57, rfl⟩, hh_X1_outcome_0⟩) (fa_nil)))⟩ dtX0_riskAtAge (by decide +kernel)
abbrev cc_X10_often_0 : scC := (qX10_often, 3, [((-2147483648), 2147483647), ((-2147483648), 2147483647)], [.inr (.inr (.inl [0])), .inl (some 0, 0), .inl (some 1, 0)], [], [(1, (0, 2147483647), [], [], []), (4, (0, 0), [], [], []), (5, (0, 0), [], [], [])], [(0, 15, 2), (26, 0, 24)])
set_option maxRecDepth 20000 in
abbrev xx_X10_often_0 : scX := (Tx, invX, lnX10, [(169, 0, 10, cc_X10_needWithin_11), (197, 0, 10, cc_X10_needLife_0), (300, 0, 0, cc_X0_riskAtAge_0), (300, 0, 0, cc_X0_riskAtAge_1), (304, 0, 10, cc_X10_renewalPrice_0)], cc_X10_often_0)
set_option maxRecDepth 20000 in
theorem hh_X10_often_0 : scH Tx invX cc_X10_often_0 := scCheck_ok (X := xx_X10_often_0) (nodes := [(25, ([(0, 7), (0, 999), (0, 2147483647), (1, 31)], [some (.inr (.inr (.inl [0]))), some (.inl (some 0, 0)), some (.inl (some 1, 0)), some (.inr (.inl ((-9223372036854775808), 9223372036854775807))), none, some (.inr (.inl ((-9223372036854775808), 9223372036854775807))), none, some (.inl (some 2, 0)), some (.inl (some 3, 0)), none, none], [], []), ([0, 0, 0, (-2)], 62))]) (fuel := 4000) ⟨lqX10, fa_cons (⟨⟨3, _, pcv_X10_169, rfl⟩, hh_X10_needWithin_11⟩) (fa_cons (⟨⟨1, _, pcv_X10_197, rfl⟩, hh_X10_needLife_0⟩) (fa_cons (⟨⟨3, _, pcv_X10_300, rfl⟩, hh_X0_riskAtAge_0⟩) (fa_cons (⟨⟨3, _, pcv_X10_300, rfl⟩, hh_X0_riskAtAge_1⟩) (fa_cons (⟨⟨2, _, pcv_X10_304, rfl⟩, hh_X10_renewalPrice_0⟩) (fa_nil)))))⟩ dtX10_often (by decide +kernel)
abbrev cc_X10_needWithin_12 : scC := (qX10_needWithin, 0, [((-2147483648), 2147483647), (1, 1), (30, 30)], [.inr (.inr (.inl [0])), .inl (some 0, 0), .inl (some 1, 0), .inl (some 2, 0)], [], [(0, (0, 0), [], [(0, (1, 30))], []), (4, (0, 0), [], [], [])], [(0, 16, 1)])
set_option maxRecDepth 20000 in
abbrev xx_X10_needWithin_12 : scX := (Tx, invX, lnX10, [], cc_X10_needWithin_12)
set_option maxRecDepth 20000 in
theorem hh_X10_needWithin_12 : scH Tx invX cc_X10_needWithin_12 := scCheck_ok (X := xx_X10_needWithin_12) (nodes := []) (fuel := 4000) ⟨lqX10, fa_nil⟩ dtX10_needWithin (by decide +kernel)
abbrev cc_X10_yearly_0 : scC := (qX10_yearly, 3, [((-2147483648), 2147483647), ((-2147483648), 2147483647), ((-2147483648), 2147483647), ((-2147483648), 2147483647)], [.inr (.inr (.inl [0])), .inl (some 0, 0), .inl (some 1, 0), .inl (some 2, 0), .inl (some 3, 0)], [], [(2, ((-9223372036854775808), 9223372036854775807), [], [], []), (4, (0, 0), [], [], []), (5, (0, 0), [], [], [])], [(0, 15, 2), (26, 0, 24)])
set_option maxRecDepth 20000 in
abbrev xx_X10_yearly_0 : scX := (Tx, invX, lnX10, [(169, 0, 10, cc_X10_needWithin_11), (169, 0, 10, cc_X10_needWithin_12), (197, 0, 10, cc_X10_needLife_0), (244, 0, 10, cc_X10_needPart_0), (253, 1, 0, cc_hand_termOf), (300, 0, 0, cc_X0_riskAtAge_0), (300, 0, 0, cc_X0_riskAtAge_1), (304, 0, 10, cc_X10_renewalPrice_0)], cc_X10_yearly_0)
set_option maxRecDepth 20000 in
theorem hh_X10_yearly_0 : scH Tx invX cc_X10_yearly_0 := scCheck_ok (X := xx_X10_yearly_0) (nodes := [(39, ([(0, 7), (0, 999), (1, 30), (0, 1), (0, 30)], [some (.inr (.inr (.inl [0]))), some (.inl (some 0, 0)), some (.inl (some 1, 0)), some (.inl (some 2, 0)), some (.inl (some 3, 0)), some (.inr (.inl ((-9223372036854775808), 9223372036854775807))), none, some (.inl (some 4, 0))], [], []), ([0, 0, 0, 0, (-2)], 60))]) (fuel := 4000) ⟨lqX10, fa_cons (⟨⟨3, _, pcv_X10_169, rfl⟩, hh_X10_needWithin_11⟩) (fa_cons (⟨⟨3, _, pcv_X10_169, rfl⟩, hh_X10_needWithin_12⟩) (fa_cons (⟨⟨1, _, pcv_X10_197, rfl⟩, hh_X10_needLife_0⟩) (fa_cons (⟨⟨1, _, pcv_X10_244, rfl⟩, hh_X10_needPart_0⟩) (fa_cons (⟨pcs_X10_253, hh_hand_termOf⟩) (fa_cons (⟨⟨3, _, pcv_X10_300, rfl⟩, hh_X0_riskAtAge_0⟩) (fa_cons (⟨⟨3, _, pcv_X10_300, rfl⟩, hh_X0_riskAtAge_1⟩) (fa_cons (⟨⟨2, _, pcv_X10_304, rfl⟩, hh_X10_renewalPrice_0⟩) (fa_nil))))))))⟩ dtX10_yearly (by decide +kernel)
abbrev cc_X10_needWithin_13 : scC := (qX10_needWithin, 0, [((-2147483648), 2147483647), (0, 0), (16, 16)], [.inr (.inr (.inl [0])), .inl (some 0, 0), .inl (some 1, 0), .inl (some 2, 0)], [], [(0, (0, 0), [], [(0, (0, 16))], []), (4, (0, 0), [], [], [])], [(0, 16, 1)])
set_option maxRecDepth 20000 in
abbrev xx_X10_needWithin_13 : scX := (Tx, invX, lnX10, [], cc_X10_needWithin_13)
set_option maxRecDepth 20000 in
theorem hh_X10_needWithin_13 : scH Tx invX cc_X10_needWithin_13 := scCheck_ok (X := xx_X10_needWithin_13) (nodes := []) (fuel := 4000) ⟨lqX10, fa_nil⟩ dtX10_needWithin (by decide +kernel)
abbrev cc_X10_needRumour_0 : scC := (qX10_needRumour, 1, [((-2147483648), 2147483647), ((-2147483648), 2147483647), ((-2147483648), 2147483647), ((-2147483648), 2147483647)], [.inr (.inr (.inl [0])), .inl (some 0, 0), .inl (some 1, 0), .inl (some 2, 0), .inl (some 3, 0)], [], [(0, (0, 0), [], [], []), (4, (0, 0), [], [], [])], [(0, 16, 1)])
set_option maxRecDepth 20000 in
abbrev xx_X10_needRumour_0 : scX := (Tx, invX, lnX10, [(169, 0, 10, cc_X10_needWithin_13), (169, 0, 10, cc_X10_needWithin_11)], cc_X10_needRumour_0)
set_option maxRecDepth 20000 in
theorem hh_X10_needRumour_0 : scH Tx invX cc_X10_needRumour_0 := scCheck_ok (X := xx_X10_needRumour_0) (nodes := []) (fuel := 4000) ⟨lqX10, fa_cons (⟨⟨3, _, pcv_X10_169, rfl⟩, hh_X10_needWithin_13⟩) (fa_cons (⟨⟨3, _, pcv_X10_169, rfl⟩, hh_X10_needWithin_11⟩) (fa_nil))⟩ dtX10_needRumour (by decide +kernel)
abbrev cc_X10_needWithin_14 : scC := (qX10_needWithin, 0, [((-2147483648), 2147483647), (0, 0), (2, 2)], [.inr (.inr (.inl [0])), .inl (some 0, 0), .inl (some 1, 0), .inl (some 2, 0)], [], [(0, (0, 0), [], [(0, (0, 2))], []), (4, (0, 0), [], [], [])], [(0, 16, 1)])
set_option maxRecDepth 20000 in
abbrev xx_X10_needWithin_14 : scX := (Tx, invX, lnX10, [], cc_X10_needWithin_14)
set_option maxRecDepth 20000 in
theorem hh_X10_needWithin_14 : scH Tx invX cc_X10_needWithin_14 := scCheck_ok (X := xx_X10_needWithin_14) (nodes := []) (fuel := 4000) ⟨lqX10, fa_nil⟩ dtX10_needWithin (by decide +kernel)
abbrev cc_X10_meanOf_0 : scC := (qX10_meanOf, 0, [(0, 16), ((-2147483648), 2147483647), ((-2147483648), 2147483647), ((-2147483648), 2147483647), ((-2147483648), 2147483647), (0, 2)], [.inl (some 0, 0), .inl (some 1, 0), .inl (some 2, 0), .inl (some 3, 0), .inl (some 4, 0), .inl (some 5, 0)], [], [(1, ((-2147483648), 2147483647), [], [], [])], [])
set_option maxRecDepth 20000 in
abbrev xx_X10_meanOf_0 : scX := (Tx, invX, lnX10, [], cc_X10_meanOf_0)
set_option maxRecDepth 20000 in
theorem hh_X10_meanOf_0 : scH Tx invX cc_X10_meanOf_0 := scCheck_ok (X := xx_X10_meanOf_0) (nodes := []) (fuel := 4000) ⟨lqX10, fa_nil⟩ dtX10_meanOf (by decide +kernel)
abbrev cc_X10_brings_0 : scC := (qX10_brings, 2, [((-2147483648), 2147483647), ((-2147483648), 2147483647), ((-2147483648), 2147483647), ((-2147483648), 2147483647), ((-2147483648), 2147483647), ((-2147483648), 2147483647)], [.inr (.inr (.inl [0])), .inl (some 0, 0), .inl (some 1, 0), .inl (some 2, 0), .inl (some 3, 0), .inl (some 4, 0), .inl (some 5, 0)], [], [(1, ((-2147483648), 2147483647), [], [], []), (4, (0, 0), [], [], [])], [(0, 16, 1)])
set_option maxRecDepth 20000 in
abbrev xx_X10_brings_0 : scX := (Tx, invX, lnX10, [(169, 0, 10, cc_X10_needWithin_13), (169, 0, 10, cc_X10_needWithin_14), (308, 0, 10, cc_X10_needRumour_0), (312, 1, 0, cc_X10_meanOf_0)], cc_X10_brings_0)
set_option maxRecDepth 20000 in
theorem hh_X10_brings_0 : scH Tx invX cc_X10_brings_0 := scCheck_ok (X := xx_X10_brings_0) (nodes := []) (fuel := 4000) ⟨lqX10, fa_cons (⟨⟨3, _, pcv_X10_169, rfl⟩, hh_X10_needWithin_13⟩) (fa_cons (⟨⟨3, _, pcv_X10_169, rfl⟩, hh_X10_needWithin_14⟩) (fa_cons (⟨⟨4, _, pcv_X10_308, rfl⟩, hh_X10_needRumour_0⟩) (fa_cons (⟨pcs_X10_312, hh_X10_meanOf_0⟩) (fa_nil))))⟩ dtX10_brings (by decide +kernel)
end
-- P 10kd
section
abbrev cc_X10_bestWay_0 : scC := (qX10_bestWay, 1, [(0, 16), ((-2147483648), 2147483647), ((-2147483648), 2147483647), ((-2147483648), 2147483647), ((-2147483648), 2147483647)], [.inl (some 0, 0), .inl (some 1, 0), .inl (some 2, 0), .inl (some 3, 0), .inl (some 4, 0)], [], [(1, (0, 2), [], [], [])], [])
set_option maxRecDepth 20000 in
abbrev xx_X10_bestWay_0 : scX := (Tx, invX, lnX10, [(312, 1, 0, cc_X10_meanOf_0)], cc_X10_bestWay_0)
set_option maxRecDepth 20000 in
theorem hh_X10_bestWay_0 : scH Tx invX cc_X10_bestWay_0 := scCheck_ok (X := xx_X10_bestWay_0) (nodes := [(18, ([(0, 16), ((-2147483648), 2147483647), ((-2147483648), 2147483647), ((-2147483648), 2147483647), ((-2147483648), 2147483647), (0, 2), ((-2147483648), 2147483647), (1, 3)], [some (.inl (some 0, 0)), some (.inl (some 1, 0)), some (.inl (some 2, 0)), some (.inl (some 3, 0)), some (.inl (some 4, 0)), some (.inl (some 5, 0)), some (.inl (some 6, 0)), some (.inl (some 7, 0)), none], [], []), ([0, 0, 0, 0, 0, 0, 0, (-2)], 6))]) (fuel := 4000) ⟨lqX10, fa_cons (⟨pcs_X10_312, hh_X10_meanOf_0⟩) (fa_nil)⟩ dtX10_bestWay (by decide +kernel)
abbrev cc_X10_says_0 : scC := (qX10_says, 2, [((-2147483648), 2147483647), ((-2147483648), 2147483647), ((-2147483648), 2147483647), ((-2147483648), 2147483647), ((-2147483648), 2147483647)], [.inr (.inr (.inl [0])), .inl (some 0, 0), .inl (some 1, 0), .inl (some 2, 0), .inl (some 3, 0), .inl (some 4, 0)], [], [(1, (0, 2), [], [], []), (4, (0, 0), [], [], [])], [(0, 16, 1)])
set_option maxRecDepth 20000 in
abbrev xx_X10_says_0 : scX := (Tx, invX, lnX10, [(169, 0, 10, cc_X10_needWithin_13), (308, 0, 10, cc_X10_needRumour_0), (316, 1, 0, cc_X10_bestWay_0)], cc_X10_says_0)
set_option maxRecDepth 20000 in
theorem hh_X10_says_0 : scH Tx invX cc_X10_says_0 := scCheck_ok (X := xx_X10_says_0) (nodes := []) (fuel := 4000) ⟨lqX10, fa_cons (⟨⟨3, _, pcv_X10_169, rfl⟩, hh_X10_needWithin_13⟩) (fa_cons (⟨⟨4, _, pcv_X10_308, rfl⟩, hh_X10_needRumour_0⟩) (fa_cons (⟨pcs_X10_316, hh_X10_bestWay_0⟩) (fa_nil)))⟩ dtX10_says (by decide +kernel)
abbrev cc_X10_line_0 : scC := (qX10_line, 2, [((-2147483648), 2147483647), ((-2147483648), 2147483647), ((-2147483648), 2147483647), ((-2147483648), 2147483647)], [.inr (.inr (.inl [0])), .inl (some 0, 0), .inl (some 1, 0), .inl (some 2, 0), .inl (some 3, 0)], [], [(1, ((-1), 16), [], [], []), (4, (0, 0), [], [], [])], [(0, 16, 1)])
set_option maxRecDepth 20000 in
abbrev xx_X10_line_0 : scX := (Tx, invX, lnX10, [(308, 0, 10, cc_X10_needRumour_0), (316, 1, 0, cc_X10_bestWay_0)], cc_X10_line_0)
set_option maxRecDepth 20000 in
theorem hh_X10_line_0 : scH Tx invX cc_X10_line_0 := scCheck_ok (X := xx_X10_line_0) (nodes := [(12, ([((-2147483648), 2147483647), ((-2147483648), 2147483647), ((-2147483648), 2147483647), ((-2147483648), 2147483647), (0, 17)], [some (.inr (.inr (.inl [0]))), some (.inl (some 0, 0)), some (.inl (some 1, 0)), some (.inl (some 2, 0)), some (.inl (some 3, 0)), some (.inl (some 4, 0))], [], []), ([0, 0, 0, 0, (-2)], 34))]) (fuel := 4000) ⟨lqX10, fa_cons (⟨⟨4, _, pcv_X10_308, rfl⟩, hh_X10_needRumour_0⟩) (fa_cons (⟨pcs_X10_316, hh_X10_bestWay_0⟩) (fa_nil))⟩ dtX10_line (by decide +kernel)
abbrev cc_X10_needWithin_15 : scC := (qX10_needWithin, 0, [((-2147483648), 2147483647), (0, 0), ((-2147483648), 2147483647)], [.inr (.inr (.inl [0])), .inl (some 0, 0), .inl (some 1, 0), .inl (some 2, 0)], [], [(0, (0, 0), [], [(0, (0, 2147483647)), (2, (0, 2147483647))], []), (4, (0, 0), [], [], [])], [(0, 16, 1)])
set_option maxRecDepth 20000 in
abbrev xx_X10_needWithin_15 : scX := (Tx, invX, lnX10, [], cc_X10_needWithin_15)
set_option maxRecDepth 20000 in
theorem hh_X10_needWithin_15 : scH Tx invX cc_X10_needWithin_15 := scCheck_ok (X := xx_X10_needWithin_15) (nodes := []) (fuel := 4000) ⟨lqX10, fa_nil⟩ dtX10_needWithin (by decide +kernel)
abbrev cc_X10_needBits_0 : scC := (qX10_needBits, 1, [((-2147483648), 2147483647)], [.inr (.inr (.inl [0])), .inl (some 0, 0)], [], [(0, (0, 0), [], [], []), (4, (0, 0), [], [], [])], [(0, 16, 1)])
set_option maxRecDepth 20000 in
abbrev xx_X10_needBits_0 : scX := (Tx, invX, lnX10, [(169, 0, 10, cc_X10_needWithin_15)], cc_X10_needBits_0)
set_option maxRecDepth 20000 in
theorem hh_X10_needBits_0 : scH Tx invX cc_X10_needBits_0 := scCheck_ok (X := xx_X10_needBits_0) (nodes := []) (fuel := 4000) ⟨lqX10, fa_cons (⟨⟨3, _, pcv_X10_169, rfl⟩, hh_X10_needWithin_15⟩) (fa_nil)⟩ dtX10_needBits (by decide +kernel)
abbrev cc_J7_fill_53178_0 : scC := (qJ7_fill_53178, 0, [((-2147483648), 2147483647)], [.inr (.inr (.inl [45])), .inl (some 0, 0)], [], [(0, (0, 0), [], [], [])], [(45, 0, 201)])
set_option maxRecDepth 20000 in
abbrev xx_J7_fill_53178_0 : scX := (Tx, invX, lnJ7, [], cc_J7_fill_53178_0)
set_option maxRecDepth 20000 in
theorem hh_J7_fill_53178_0 : scH Tx invX cc_J7_fill_53178_0 := scCheck_ok (X := xx_J7_fill_53178_0) (nodes := [(5, ([((-2147483648), 2147483647), (0, 201), (201, 201), ((-2147483648), 2147483647)], [some (.inr (.inr (.inl [45]))), some (.inl (some 0, 0)), some (.inl (some 1, 0)), some (.inl (some 2, 0))], [], [((45, 0), (some 3, 0))]), ([0, (-2)], 402))]) (fuel := 4000) ⟨lqJ7, fa_nil⟩ dtJ7_fill_53178 (by decide +kernel)
abbrev cc_X10_fillRoom_0 : scC := (qX10_fillRoom, 2, [((-2147483648), 2147483647), (0, 200)], [.inr (.inr (.inl [0])), .inl (some 0, 0), .inl (some 1, 0)], [], [(1, ((-2147483648), 2147483647), [], [], [])], [(45, 0, 201)])
set_option maxRecDepth 20000 in
abbrev xx_X10_fillRoom_0 : scX := (Tx, invX, lnX10, [(384, 1, 0, cc_J7_fill_53178_0), (390, 0, 10, cc_hand_addToRoom)], cc_X10_fillRoom_0)
set_option maxRecDepth 20000 in
theorem hh_X10_fillRoom_0 : scH Tx invX cc_X10_fillRoom_0 := scCheck_ok (X := xx_X10_fillRoom_0) (nodes := [(10, ([((-2147483648), 2147483647), (0, 200), (0, 8), (0, 8)], [some (.inr (.inr (.inl [0]))), some (.inl (some 0, 0)), some (.inl (some 1, 0)), some (.inl (some 2, 0))], [], [((3, 9), (some 3, 0))]), ([0, 0, (-2)], 16))]) (fuel := 4000) ⟨lqX10, fa_cons (⟨pcs_X10_384, hh_J7_fill_53178_0⟩) (fa_cons (⟨⟨2, _, pcv_X10_390, rfl⟩, hh_hand_addToRoom⟩) (fa_nil))⟩ dtX10_fillRoom (by decide +kernel)
abbrev cc_X10_roomWorth_0 : scC := (qX10_roomWorth, 0, [((-2147483648), 2147483647)], [.inl (some 0, 0)], [], [(1, ((-2147483648), 2147483647), [], [], [])], [])
set_option maxRecDepth 20000 in
abbrev xx_X10_roomWorth_0 : scX := (Tx, invX, lnX10, [], cc_X10_roomWorth_0)
set_option maxRecDepth 20000 in
theorem hh_X10_roomWorth_0 : scH Tx invX cc_X10_roomWorth_0 := scCheck_ok (X := xx_X10_roomWorth_0) (nodes := []) (fuel := 4000) ⟨lqX10, fa_nil⟩ dtX10_roomWorth (by decide +kernel)
abbrev cc_X10_room_0 : scC := (qX10_room, 3, [((-2147483648), 2147483647), ((-2147483648), 2147483647)], [.inr (.inr (.inl [0])), .inl (some 0, 0), .inl (some 1, 0)], [], [(1, ((-2147483648), 2147483647), [], [], []), (4, (0, 0), [], [], [])], [(0, 16, 1), (45, 0, 201)])
set_option maxRecDepth 20000 in
abbrev xx_X10_room_0 : scX := (Tx, invX, lnX10, [(169, 0, 10, cc_X10_needWithin_3), (319, 0, 10, cc_X10_needBits_0), (322, 0, 10, cc_X10_fillRoom_0), (325, 1, 0, cc_X10_roomWorth_0)], cc_X10_room_0)
set_option maxRecDepth 20000 in
theorem hh_X10_room_0 : scH Tx invX cc_X10_room_0 := scCheck_ok (X := xx_X10_room_0) (nodes := []) (fuel := 4000) ⟨lqX10, fa_cons (⟨⟨3, _, pcv_X10_169, rfl⟩, hh_X10_needWithin_3⟩) (fa_cons (⟨⟨1, _, pcv_X10_319, rfl⟩, hh_X10_needBits_0⟩) (fa_cons (⟨⟨2, _, pcv_X10_322, rfl⟩, hh_X10_fillRoom_0⟩) (fa_cons (⟨pcs_X10_325, hh_X10_roomWorth_0⟩) (fa_nil))))⟩ dtX10_room (by decide +kernel)
abbrev cc_X10_roomShift_0 : scC := (qX10_roomShift, 0, [(0, 7)], [.inl (some 0, 0)], [], [(1, (0, 14), [], [], [])], [])
set_option maxRecDepth 20000 in
abbrev xx_X10_roomShift_0 : scX := (Tx, invX, lnX10, [], cc_X10_roomShift_0)
set_option maxRecDepth 20000 in
theorem hh_X10_roomShift_0 : scH Tx invX cc_X10_roomShift_0 := scCheck_ok (X := xx_X10_roomShift_0) (nodes := []) (fuel := 4000) ⟨lqX10, fa_nil⟩ dtX10_roomShift (by decide +kernel)
abbrev cc_X10_lines_0 : scC := (qX10_lines, 3, [((-2147483648), 2147483647), ((-2147483648), 2147483647), ((-2147483648), 2147483647)], [.inr (.inr (.inl [0])), .inl (some 0, 0), .inl (some 1, 0), .inl (some 2, 0)], [], [(1, (0, 99), [], [], []), (4, (0, 0), [], [], []), (5, (0, 0), [], [], [])], [(0, 15, 2), (45, 0, 201)])
set_option maxRecDepth 20000 in
abbrev xx_X10_lines_0 : scX := (Tx, invX, lnX10, [(169, 0, 10, cc_X10_needWithin_3), (197, 0, 10, cc_X10_needLife_0), (319, 0, 10, cc_X10_needBits_0), (322, 0, 10, cc_X10_fillRoom_0), (325, 1, 0, cc_X10_roomWorth_0), (328, 1, 0, cc_X10_roomShift_0)], cc_X10_lines_0)
set_option maxRecDepth 20000 in
theorem hh_X10_lines_0 : scH Tx invX cc_X10_lines_0 := scCheck_ok (X := xx_X10_lines_0) (nodes := []) (fuel := 4000) ⟨lqX10, fa_cons (⟨⟨3, _, pcv_X10_169, rfl⟩, hh_X10_needWithin_3⟩) (fa_cons (⟨⟨1, _, pcv_X10_197, rfl⟩, hh_X10_needLife_0⟩) (fa_cons (⟨⟨1, _, pcv_X10_319, rfl⟩, hh_X10_needBits_0⟩) (fa_cons (⟨⟨2, _, pcv_X10_322, rfl⟩, hh_X10_fillRoom_0⟩) (fa_cons (⟨pcs_X10_325, hh_X10_roomWorth_0⟩) (fa_cons (⟨pcs_X10_328, hh_X10_roomShift_0⟩) (fa_nil))))))⟩ dtX10_lines (by decide +kernel)
abbrev cc_X10_look_0 : scC := (qX10_look, 1, [], [.inr (.inr (.inl [0]))], [], [(0, (0, 0), [], [], [])], [(44, 0, 8)])
set_option maxRecDepth 20000 in
abbrev xx_X10_look_0 : scX := (Tx, invX, lnX10, [(225, 0, 8, cc_X8_factBits_0)], cc_X10_look_0)
set_option maxRecDepth 20000 in
theorem hh_X10_look_0 : scH Tx invX cc_X10_look_0 := scCheck_ok (X := xx_X10_look_0) (nodes := [(2, ([(0, 8), ((-2147483648), 2147483647), (0, 200), (0, 8)], [some (.inr (.inr (.inl [0]))), some (.inl (some 0, 0))], [], [((44, 0), (some 1, 0)), ((47, 2), (some 2, 0)), ((3, 9), (some 3, 0))]), ([(-2)], 16))]) (fuel := 4000) ⟨lqX10, fa_cons (⟨⟨2, _, pcv_X10_225, rfl⟩, hh_X8_factBits_0⟩) (fa_nil)⟩ dtX10_look (by decide +kernel)
abbrev cc_X10_tellsApart_0 : scC := (qX10_tellsApart, 0, [((-2147483648), 2147483647), ((-2147483648), 2147483647)], [.inr (.inr (.inl [0])), .inl (some 0, 0), .inl (some 1, 0)], [], [(1, (0, 1), [], [], [])], [])
set_option maxRecDepth 20000 in
abbrev xx_X10_tellsApart_0 : scX := (Tx, invX, lnX10, [], cc_X10_tellsApart_0)
set_option maxRecDepth 20000 in
theorem hh_X10_tellsApart_0 : scH Tx invX cc_X10_tellsApart_0 := scCheck_ok (X := xx_X10_tellsApart_0) (nodes := [(2, ([((-2147483648), 2147483647), ((-2147483648), 2147483647), (0, 8), (0, 8), ((-2147483648), 2147483647), ((-2147483648), 2147483647)], [some (.inr (.inr (.inl [0]))), some (.inl (some 0, 0)), some (.inl (some 1, 0)), some (.inl (some 2, 0)), none, none], [], [((3, 9), (some 3, 0)), ((44, 1), (some 4, 0)), ((44, 0), (some 5, 0))]), ([0, 0, (-18)], 160)), (18, ([((-2147483648), 2147483647), ((-2147483648), 2147483647), (0, 7), (1, 8), (1, 8), ((-2147483648), 2147483647), ((-2147483648), 2147483647)], [some (.inr (.inr (.inl [0]))), some (.inl (some 0, 0)), some (.inl (some 1, 0)), some (.inl (some 2, 0)), some (.inl (some 3, 0)), none], [], [((3, 9), (some 4, 0)), ((44, 1), (some 5, 0)), ((44, 0), (some 6, 0))]), ([0, 0, (-18), (-2)], 160))]) (fuel := 4000) ⟨lqX10, fa_nil⟩ dtX10_tellsApart (by decide +kernel)
abbrev cc_X10_apart_0 : scC := (qX10_apart, 2, [((-2147483648), 2147483647), ((-2147483648), 2147483647)], [.inr (.inr (.inl [0])), .inl (some 0, 0), .inl (some 1, 0)], [], [(1, ((-1), 2147483647), [], [], []), (4, (0, 0), [], [], [])], [(0, 16, 1), (44, 0, 8)])
set_option maxRecDepth 20000 in
abbrev xx_X10_apart_0 : scX := (Tx, invX, lnX10, [(169, 0, 10, cc_X10_needWithin_5), (182, 1, 0, cc_J6_bitCount_0f7a4_0), (319, 0, 10, cc_X10_needBits_0), (331, 0, 10, cc_X10_look_0), (334, 0, 10, cc_X10_tellsApart_0)], cc_X10_apart_0)
set_option maxRecDepth 20000 in
theorem hh_X10_apart_0 : scH Tx invX cc_X10_apart_0 := scCheck_ok (X := xx_X10_apart_0) (nodes := [(25, ([((-2147483648), 2147483647), (0, 1), ((-1), 2147483647), (0, 7), (0, 64)], [some (.inr (.inr (.inl [0]))), some (.inl (some 0, 0)), some (.inl (some 1, 0)), some (.inl (some 2, 0)), some (.inl (some 3, 0)), some (.inl (some 4, 0)), none], [], []), ([0, 0, 0, 0, (-2)], 128))]) (fuel := 4000) ⟨lqX10, fa_cons (⟨⟨3, _, pcv_X10_169, rfl⟩, hh_X10_needWithin_5⟩) (fa_cons (⟨pcs_X10_182, hh_J6_bitCount_0f7a4_0⟩) (fa_cons (⟨⟨1, _, pcv_X10_319, rfl⟩, hh_X10_needBits_0⟩) (fa_cons (⟨⟨0, _, pcv_X10_331, rfl⟩, hh_X10_look_0⟩) (fa_cons (⟨⟨2, _, pcv_X10_334, rfl⟩, hh_X10_tellsApart_0⟩) (fa_nil)))))⟩ dtX10_apart (by decide +kernel)
abbrev cc_X10_twins_0 : scC := (qX10_twins, 2, [], [.inr (.inr (.inl [0]))], [], [(1, ((-1), 77), [], [], [])], [(44, 0, 8)])
set_option maxRecDepth 20000 in
abbrev xx_X10_twins_0 : scX := (Tx, invX, lnX10, [(331, 0, 10, cc_X10_look_0)], cc_X10_twins_0)
set_option maxRecDepth 20000 in
theorem hh_X10_twins_0 : scH Tx invX cc_X10_twins_0 := scCheck_ok (X := xx_X10_twins_0) (nodes := [(6, ([(0, 8), (0, 8), ((-2147483648), 2147483647), ((-2147483648), 2147483647)], [some (.inr (.inr (.inl [0]))), some (.inl (some 0, 0)), none], [], [((3, 9), (some 1, 0)), ((44, 1), (some 2, 0)), ((44, 0), (some 3, 0))]), ([(-18)], 160)), (21, ([(0, 7), (1, 8), (1, 8), ((-2147483648), 2147483647), ((-2147483648), 2147483647)], [some (.inr (.inr (.inl [0]))), some (.inl (some 0, 0)), some (.inl (some 1, 0))], [], [((3, 9), (some 2, 0)), ((44, 1), (some 3, 0)), ((44, 0), (some 4, 0))]), ([(-18), (-2)], 160))]) (fuel := 4000) ⟨lqX10, fa_cons (⟨⟨0, _, pcv_X10_331, rfl⟩, hh_X10_look_0⟩) (fa_nil)⟩ dtX10_twins (by decide +kernel)
abbrev cc_X2_fits_0 : scC := (qX2_fits, 0, [((-2147483648), 2147483647)], [.inr (.inr (.inl [27])), .inl (some 0, 0)], [], [(1, (0, 1), [], [], [])], [])
set_option maxRecDepth 20000 in
abbrev xx_X2_fits_0 : scX := (Tx, invX, lnX2, [], cc_X2_fits_0)
set_option maxRecDepth 20000 in
theorem hh_X2_fits_0 : scH Tx invX cc_X2_fits_0 := scCheck_ok (X := xx_X2_fits_0) (nodes := []) (fuel := 4000) ⟨lqX2, fa_nil⟩ dtX2_fits (by decide +kernel)
abbrev cc_X10_weeksAsPage_0 : scC := (qX10_weeksAsPage, 1, [((-2147483648), 2147483647)], [.inr (.inr (.inl [0])), .inl (some 0, 0)], [], [(2, ((-9223372036854775808), 9223372036854775807), [], [], [])], [])
set_option maxRecDepth 20000 in
abbrev xx_X10_weeksAsPage_0 : scX := (Tx, invX, lnX10, [(225, 0, 8, cc_X8_factBits_0), (394, 0, 2, cc_X2_fits_0)], cc_X10_weeksAsPage_0)
set_option maxRecDepth 20000 in
theorem hh_X10_weeksAsPage_0 : scH Tx invX cc_X10_weeksAsPage_0 := scCheck_ok (X := xx_X10_weeksAsPage_0) (nodes := [(5, ([((-2147483648), 2147483647), (0, 61)], [some (.inr (.inr (.inl [0]))), some (.inl (some 0, 0)), some (.inr (.inl ((-9223372036854775808), 9223372036854775807))), none, some (.inl (some 1, 0))], [], []), ([0, (-2)], 122))]) (fuel := 4000) ⟨lqX10, fa_cons (⟨⟨2, _, pcv_X10_225, rfl⟩, hh_X8_factBits_0⟩) (fa_cons (⟨⟨1, _, pcv_X10_394, rfl⟩, hh_X2_fits_0⟩) (fa_nil))⟩ dtX10_weeksAsPage (by decide +kernel)
abbrev cc_X10_written_0 : scC := (qX10_written, 2, [((-2147483648), 2147483647)], [.inr (.inr (.inl [0])), .inl (some 0, 0)], [], [(2, ((-9223372036854775808), 9223372036854775807), [], [], []), (5, (0, 0), [], [], [])], [(0, 15, 1)])
set_option maxRecDepth 20000 in
abbrev xx_X10_written_0 : scX := (Tx, invX, lnX10, [(197, 0, 10, cc_X10_needLife_0), (338, 0, 10, cc_X10_weeksAsPage_0)], cc_X10_written_0)
set_option maxRecDepth 20000 in
theorem hh_X10_written_0 : scH Tx invX cc_X10_written_0 := scCheck_ok (X := xx_X10_written_0) (nodes := []) (fuel := 4000) ⟨lqX10, fa_cons (⟨⟨1, _, pcv_X10_197, rfl⟩, hh_X10_needLife_0⟩) (fa_cons (⟨⟨1, _, pcv_X10_338, rfl⟩, hh_X10_weeksAsPage_0⟩) (fa_nil))⟩ dtX10_written (by decide +kernel)
abbrev cc_X10_whose_0 : scC := (qX10_whose, 2, [], [.inr (.inr (.inl [0]))], [], [(1, ((-2147483648), 2147483647), [], [], [])], [])
set_option maxRecDepth 20000 in
abbrev xx_X10_whose_0 : scX := (Tx, invX, lnX10, [(338, 0, 10, cc_X10_weeksAsPage_0)], cc_X10_whose_0)
set_option maxRecDepth 20000 in
theorem hh_X10_whose_0 : scH Tx invX cc_X10_whose_0 := scCheck_ok (X := xx_X10_whose_0) (nodes := [(4, ([((-2147483648), 2147483647), (0, 8), (0, 8)], [some (.inr (.inr (.inl [0]))), some (.inl (some 0, 0)), some (.inl (some 1, 0))], [], [((3, 9), (some 2, 0))]), ([0, (-2)], 16))]) (fuel := 4000) ⟨lqX10, fa_cons (⟨⟨1, _, pcv_X10_338, rfl⟩, hh_X10_weeksAsPage_0⟩) (fa_nil)⟩ dtX10_whose (by decide +kernel)
abbrev cc_X10_needWithin_16 : scC := (qX10_needWithin, 0, [((-2147483648), 2147483647), (1, 1), (60, 60)], [.inr (.inr (.inl [0])), .inl (some 0, 0), .inl (some 1, 0), .inl (some 2, 0)], [], [(0, (0, 0), [], [(0, (1, 60))], []), (4, (0, 0), [], [], [])], [(0, 16, 1)])
set_option maxRecDepth 20000 in
abbrev xx_X10_needWithin_16 : scX := (Tx, invX, lnX10, [], cc_X10_needWithin_16)
set_option maxRecDepth 20000 in
theorem hh_X10_needWithin_16 : scH Tx invX cc_X10_needWithin_16 := scCheck_ok (X := xx_X10_needWithin_16) (nodes := []) (fuel := 4000) ⟨lqX10, fa_nil⟩ dtX10_needWithin (by decide +kernel)
abbrev cc_X10_needWithin_17 : scC := (qX10_needWithin, 0, [((-2147483648), 2147483647), (0, 0), (4, 4)], [.inr (.inr (.inl [0])), .inl (some 0, 0), .inl (some 1, 0), .inl (some 2, 0)], [], [(0, (0, 0), [], [(0, (0, 4))], []), (4, (0, 0), [], [], [])], [(0, 16, 1)])
set_option maxRecDepth 20000 in
abbrev xx_X10_needWithin_17 : scX := (Tx, invX, lnX10, [], cc_X10_needWithin_17)
set_option maxRecDepth 20000 in
theorem hh_X10_needWithin_17 : scH Tx invX cc_X10_needWithin_17 := scCheck_ok (X := xx_X10_needWithin_17) (nodes := []) (fuel := 4000) ⟨lqX10, fa_nil⟩ dtX10_needWithin (by decide +kernel)
abbrev cc_X6_copyFrom_1 : scC := (qX6_copyFrom, 0, [], [.inr (.inr (.inl [41])), .inr (.inr (.inl [47]))], [], [(0, (0, 0), [], [], [])], [(41, 1, 6), (42, 0, 8)])
set_option maxRecDepth 20000 in
abbrev xx_X6_copyFrom_1 : scX := (Tx, invX, lnX6, [], cc_X6_copyFrom_1)
set_option maxRecDepth 20000 in
theorem hh_X6_copyFrom_1 : scH Tx invX cc_X6_copyFrom_1 := scCheck_ok (X := xx_X6_copyFrom_1) (nodes := []) (fuel := 4000) ⟨lqX6, fa_nil⟩ dtX6_copyFrom (by decide +kernel)
abbrev cc_X6_isAlive_1 : scC := (qX6_isAlive, 0, [((-2147483648), 2147483647)], [.inr (.inr (.inl [41])), .inl (some 0, 0)], [], [(1, (0, 1), [], [], [])], [])
set_option maxRecDepth 20000 in
abbrev xx_X6_isAlive_1 : scX := (Tx, invX, lnX6, [], cc_X6_isAlive_1)
set_option maxRecDepth 20000 in
theorem hh_X6_isAlive_1 : scH Tx invX cc_X6_isAlive_1 := scCheck_ok (X := xx_X6_isAlive_1) (nodes := []) (fuel := 4000) ⟨lqX6, fa_nil⟩ dtX6_isAlive (by decide +kernel)
abbrev cc_X4_drawOf64_0 : scC := (qX4_drawOf64, 0, [], [.inr (.inr (.inl [39]))], [], [(1, ((-2147483648), 2147483647), [], [], [])], [(39, 4, 1)])
set_option maxRecDepth 20000 in
abbrev xx_X4_drawOf64_0 : scX := (Tx, invX, lnX4, [], cc_X4_drawOf64_0)
set_option maxRecDepth 20000 in
theorem hh_X4_drawOf64_0 : scH Tx invX cc_X4_drawOf64_0 := scCheck_ok (X := xx_X4_drawOf64_0) (nodes := []) (fuel := 4000) ⟨lqX4, fa_nil⟩ dtX4_drawOf64 (by decide +kernel)
abbrev cc_X0_yearsWhen_2 : scC := (qX0_yearsWhen, 0, [(0, 7), (0, 7)], [.inr (.inr (.inl [32])), .inr (.inr (.inl [41])), .inl (some 0, 0), .inl (some 1, 0)], [], [(1, (0, 317), [], [], [])], [])
set_option maxRecDepth 20000 in
abbrev xx_X0_yearsWhen_2 : scX := (Tx, invX, lnX0, [], cc_X0_yearsWhen_2)
set_option maxRecDepth 20000 in
theorem hh_X0_yearsWhen_2 : scH Tx invX cc_X0_yearsWhen_2 := scCheck_ok (X := xx_X0_yearsWhen_2) (nodes := []) (fuel := 4000) ⟨lqX0, fa_nil⟩ dtX0_yearsWhen (by decide +kernel)
abbrev cc_X0_signerDead_1 : scC := (qX0_signerDead, 1, [(0, 7)], [.inr (.inr (.inl [32])), .inr (.inr (.inl [41])), .inl (some 0, 0)], [], [(1, (0, 1), [], [], [])], [])
set_option maxRecDepth 20000 in
abbrev xx_X0_signerDead_1 : scX := (Tx, invX, lnX0, [(38, 0, 6, cc_X6_isAlive_1)], cc_X0_signerDead_1)
set_option maxRecDepth 20000 in
theorem hh_X0_signerDead_1 : scH Tx invX cc_X0_signerDead_1 := scCheck_ok (X := xx_X0_signerDead_1) (nodes := []) (fuel := 4000) ⟨lqX0, fa_cons (⟨⟨1, _, pcv_X0_38, rfl⟩, hh_X6_isAlive_1⟩) (fa_nil)⟩ dtX0_signerDead (by decide +kernel)
abbrev cc_X0_wrongWhen_2 : scC := (qX0_wrongWhen, 2, [(0, 7), (0, 7), ((-2147483648), 2147483647)], [.inr (.inr (.inl [32])), .inr (.inr (.inl [41])), .inl (some 0, 0), .inl (some 1, 0), .inl (some 2, 0)], [], [(1, (0, 64), [], [], [])], [(26, 0, 24)])
set_option maxRecDepth 20000 in
abbrev xx_X0_wrongWhen_2 : scX := (Tx, invX, lnX0, [(42, 0, 8, cc_X8_changesBetween_0), (46, 0, 0, cc_X0_yearsWhen_2), (53, 0, 0, cc_X0_signerDead_1), (57, 0, 1, cc_X1_outcome_0)], cc_X0_wrongWhen_2)
set_option maxRecDepth 20000 in
theorem hh_X0_wrongWhen_2 : scH Tx invX cc_X0_wrongWhen_2 := scCheck_ok (X := xx_X0_wrongWhen_2) (nodes := []) (fuel := 4000) ⟨lqX0, fa_cons (⟨⟨3, _, pcv_X0_42, rfl⟩, hh_X8_changesBetween_0⟩) (fa_cons (⟨⟨3, _, pcv_X0_46, rfl⟩, hh_X0_yearsWhen_2⟩) (fa_cons (⟨⟨2, _, pcv_X0_53, rfl⟩, hh_X0_signerDead_1⟩) (fa_cons (⟨⟨5, _, pcv_X0_57, rfl⟩, hh_X1_outcome_0⟩) (fa_nil))))⟩ dtX0_wrongWhen (by decide +kernel)
abbrev cc_X0_costWhen_2 : scC := (qX0_costWhen, 3, [(0, 7), (0, 7), ((-2147483648), 2147483647)], [.inr (.inr (.inl [32])), .inr (.inr (.inl [41])), .inl (some 0, 0), .inl (some 1, 0), .inl (some 2, 0)], [], [(2, ((-9223372036854775808), 9223372036854775807), [], [], [])], [(26, 0, 24)])
set_option maxRecDepth 20000 in
abbrev xx_X0_costWhen_2 : scX := (Tx, invX, lnX0, [(71, 0, 0, cc_X0_wrongWhen_2)], cc_X0_costWhen_2)
set_option maxRecDepth 20000 in
theorem hh_X0_costWhen_2 : scH Tx invX cc_X0_costWhen_2 := scCheck_ok (X := xx_X0_costWhen_2) (nodes := []) (fuel := 4000) ⟨lqX0, fa_cons (⟨⟨4, _, pcv_X0_71, rfl⟩, hh_X0_wrongWhen_2⟩) (fa_nil)⟩ dtX0_costWhen (by decide +kernel)
abbrev cc_X0_letDie_0 : scC := (qX0_letDie, 4, [(0, 7)], [.inr (.inr (.inl [32])), .inr (.inr (.inl [41])), .inl (some 0, 0)], [], [(1, (0, 1), [], [], [])], [(26, 0, 24), (41, 1, 1), (41, 3, 4), (42, 0, 8)])
set_option maxRecDepth 20000 in
abbrev xx_X0_letDie_0 : scX := (Tx, invX, lnX0, [(38, 0, 6, cc_X6_isAlive_1), (84, 0, 0, cc_X0_costWhen_2)], cc_X0_letDie_0)
set_option maxRecDepth 20000 in
theorem hh_X0_letDie_0 : scH Tx invX cc_X0_letDie_0 := scCheck_ok (X := xx_X0_letDie_0) (nodes := []) (fuel := 4000) ⟨lqX0, fa_cons (⟨⟨1, _, pcv_X0_38, rfl⟩, hh_X6_isAlive_1⟩) (fa_cons (⟨⟨4, _, pcv_X0_84, rfl⟩, hh_X0_costWhen_2⟩) (fa_nil))⟩ dtX0_letDie (by decide +kernel)
abbrev cc_X4_drawDeaths_0 : scC := (qX4_drawDeaths, 5, [], [.inr (.inr (.inl [39]))], [], [(0, (0, 0), [], [], [])], [(26, 0, 24), (39, 4, 1), (41, 1, 1), (41, 3, 4), (42, 0, 8)])
set_option maxRecDepth 20000 in
abbrev xx_X4_drawDeaths_0 : scX := (Tx, invX, lnX4, [(69, 0, 6, cc_X6_isAlive_1), (73, 0, 4, cc_X4_drawOf64_0), (81, 0, 0, cc_X0_letDie_0)], cc_X4_drawDeaths_0)
set_option maxRecDepth 20000 in
theorem hh_X4_drawDeaths_0 : scH Tx invX cc_X4_drawDeaths_0 := scCheck_ok (X := xx_X4_drawDeaths_0) (nodes := [(2, ([(0, 8), (0, 64), (0, 8)], [some (.inr (.inr (.inl [39]))), some (.inl (some 0, 0))], [], [((5, 0), (some 1, 0)), ((3, 9), (some 2, 0))]), ([(-2)], 16))]) (fuel := 4000) ⟨lqX4, fa_cons (⟨⟨1, _, pcv_X4_69, rfl⟩, hh_X6_isAlive_1⟩) (fa_cons (⟨⟨0, _, pcv_X4_73, rfl⟩, hh_X4_drawOf64_0⟩) (fa_cons (⟨⟨2, _, pcv_X4_81, rfl⟩, hh_X0_letDie_0⟩) (fa_nil)))⟩ dtX4_drawDeaths (by decide +kernel)
abbrev cc_X0_canBePut_1 : scC := (qX0_canBePut, 1, [(0, 7)], [.inr (.inr (.inl [32])), .inr (.inr (.inl [41])), .inl (some 0, 0)], [], [(1, (0, 1), [], [], [])], [])
set_option maxRecDepth 20000 in
abbrev xx_X0_canBePut_1 : scX := (Tx, invX, lnX0, [(38, 0, 6, cc_X6_isAlive_1)], cc_X0_canBePut_1)
set_option maxRecDepth 20000 in
theorem hh_X0_canBePut_1 : scH Tx invX cc_X0_canBePut_1 := scCheck_ok (X := xx_X0_canBePut_1) (nodes := []) (fuel := 4000) ⟨lqX0, fa_cons (⟨⟨1, _, pcv_X0_38, rfl⟩, hh_X6_isAlive_1⟩) (fa_nil)⟩ dtX0_canBePut (by decide +kernel)
abbrev cc_X0_savedRisk_1 : scC := (qX0_savedRisk, 4, [(0, 7)], [.inr (.inr (.inl [32])), .inr (.inr (.inl [41])), .inl (some 0, 0)], [], [(2, ((-9223372036854775808), 9223372036854775807), [], [], [])], [(26, 0, 24)])
set_option maxRecDepth 20000 in
abbrev xx_X0_savedRisk_1 : scX := (Tx, invX, lnX0, [(84, 0, 0, cc_X0_costWhen_2), (95, 0, 0, cc_X0_canBePut_1)], cc_X0_savedRisk_1)
set_option maxRecDepth 20000 in
theorem hh_X0_savedRisk_1 : scH Tx invX cc_X0_savedRisk_1 := scCheck_ok (X := xx_X0_savedRisk_1) (nodes := []) (fuel := 4000) ⟨lqX0, fa_cons (⟨⟨4, _, pcv_X0_84, rfl⟩, hh_X0_costWhen_2⟩) (fa_cons (⟨⟨2, _, pcv_X0_95, rfl⟩, hh_X0_canBePut_1⟩) (fa_nil))⟩ dtX0_savedRisk (by decide +kernel)
abbrev cc_X0_hoursFor_1 : scC := (qX0_hoursFor, 2, [(0, 0)], [.inr (.inr (.inl [32])), .inr (.inr (.inl [41])), .inl (some 0, 0)], [], [(1, (0, 9), [], [], [])], [])
set_option maxRecDepth 20000 in
abbrev xx_X0_hoursFor_1 : scX := (Tx, invX, lnX0, [(91, 0, 8, cc_X8_renewHours_0)], cc_X0_hoursFor_1)
set_option maxRecDepth 20000 in
theorem hh_X0_hoursFor_1 : scH Tx invX cc_X0_hoursFor_1 := scCheck_ok (X := xx_X0_hoursFor_1) (nodes := []) (fuel := 4000) ⟨lqX0, fa_cons (⟨⟨1, _, pcv_X0_91, rfl⟩, hh_X8_renewHours_0⟩) (fa_nil)⟩ dtX0_hoursFor (by decide +kernel)
abbrev cc_X0_hoursFor_2 : scC := (qX0_hoursFor, 2, [(0, 1)], [.inr (.inr (.inl [32])), .inr (.inr (.inl [41])), .inl (some 0, 0)], [], [(1, (0, 9), [], [], [])], [])
set_option maxRecDepth 20000 in
abbrev xx_X0_hoursFor_2 : scX := (Tx, invX, lnX0, [(91, 0, 8, cc_X8_renewHours_0)], cc_X0_hoursFor_2)
set_option maxRecDepth 20000 in
theorem hh_X0_hoursFor_2 : scH Tx invX cc_X0_hoursFor_2 := scCheck_ok (X := xx_X0_hoursFor_2) (nodes := []) (fuel := 4000) ⟨lqX0, fa_cons (⟨⟨1, _, pcv_X0_91, rfl⟩, hh_X8_renewHours_0⟩) (fa_nil)⟩ dtX0_hoursFor (by decide +kernel)
abbrev cc_X0_hoursFor_3 : scC := (qX0_hoursFor, 2, [(0, 2)], [.inr (.inr (.inl [32])), .inr (.inr (.inl [41])), .inl (some 0, 0)], [], [(1, (0, 9), [], [], [])], [])
set_option maxRecDepth 20000 in
abbrev xx_X0_hoursFor_3 : scX := (Tx, invX, lnX0, [(91, 0, 8, cc_X8_renewHours_0)], cc_X0_hoursFor_3)
set_option maxRecDepth 20000 in
theorem hh_X0_hoursFor_3 : scH Tx invX cc_X0_hoursFor_3 := scCheck_ok (X := xx_X0_hoursFor_3) (nodes := []) (fuel := 4000) ⟨lqX0, fa_cons (⟨⟨1, _, pcv_X0_91, rfl⟩, hh_X8_renewHours_0⟩) (fa_nil)⟩ dtX0_hoursFor (by decide +kernel)
abbrev cc_X0_hoursFor_4 : scC := (qX0_hoursFor, 2, [(0, 7)], [.inr (.inr (.inl [32])), .inr (.inr (.inl [41])), .inl (some 0, 0)], [], [(1, (0, 9), [], [], [])], [])
set_option maxRecDepth 20000 in
abbrev xx_X0_hoursFor_4 : scX := (Tx, invX, lnX0, [(91, 0, 8, cc_X8_renewHours_0)], cc_X0_hoursFor_4)
set_option maxRecDepth 20000 in
theorem hh_X0_hoursFor_4 : scH Tx invX cc_X0_hoursFor_4 := scCheck_ok (X := xx_X0_hoursFor_4) (nodes := []) (fuel := 4000) ⟨lqX0, fa_cons (⟨⟨1, _, pcv_X0_91, rfl⟩, hh_X8_renewHours_0⟩) (fa_nil)⟩ dtX0_hoursFor (by decide +kernel)
abbrev cc_X0_firstOf_1 : scC := (qX0_firstOf, 3, [((-2147483648), 2147483647)], [.inr (.inr (.inl [32])), .inr (.inr (.inl [41])), .inr (.inr (.inl [40])), .inl (some 0, 0)], [], [(1, ((-1), 7), [], [], [])], [])
set_option maxRecDepth 20000 in
abbrev xx_X0_firstOf_1 : scX := (Tx, invX, lnX0, [(113, 0, 0, cc_X0_hoursFor_1), (113, 0, 0, cc_X0_hoursFor_2), (113, 0, 0, cc_X0_hoursFor_3), (113, 0, 0, cc_X0_hoursFor_4)], cc_X0_firstOf_1)
set_option maxRecDepth 20000 in
theorem hh_X0_firstOf_1 : scH Tx invX cc_X0_firstOf_1 := scCheck_ok (X := xx_X0_firstOf_1) (nodes := [(12, ([((-2147483648), 2147483647), ((-1), 7), (0, 9), (0, 8), (0, 8)], [some (.inr (.inr (.inl [32]))), some (.inr (.inr (.inl [41]))), some (.inr (.inr (.inl [40]))), some (.inl (some 0, 0)), some (.inl (some 1, 0)), some (.inr (.inl ((-9223372036854775808), 9223372036854775807))), none, some (.inl (some 2, 0)), some (.inl (some 3, 0)), none], [], [((3, 9), (some 4, 0))]), ([0, 0, 0, (-2)], 16))]) (fuel := 4000) ⟨lqX0, fa_cons (⟨⟨2, _, pcv_X0_113, rfl⟩, hh_X0_hoursFor_1⟩) (fa_cons (⟨⟨2, _, pcv_X0_113, rfl⟩, hh_X0_hoursFor_2⟩) (fa_cons (⟨⟨2, _, pcv_X0_113, rfl⟩, hh_X0_hoursFor_3⟩) (fa_cons (⟨⟨2, _, pcv_X0_113, rfl⟩, hh_X0_hoursFor_4⟩) (fa_nil))))⟩ dtX0_firstOf (by decide +kernel)
abbrev cc_X0_putPiece_0 : scC := (qX0_putPiece, 3, [(0, 7)], [.inr (.inr (.inl [32])), .inr (.inr (.inl [41])), .inl (some 0, 0)], [], [(1, (0, 1), [], [], [])], [(41, 3, 1), (42, 0, 8)])
set_option maxRecDepth 20000 in
abbrev xx_X0_putPiece_0 : scX := (Tx, invX, lnX0, [(95, 0, 0, cc_X0_canBePut_1), (113, 0, 0, cc_X0_hoursFor_4)], cc_X0_putPiece_0)
set_option maxRecDepth 20000 in
theorem hh_X0_putPiece_0 : scH Tx invX cc_X0_putPiece_0 := scCheck_ok (X := xx_X0_putPiece_0) (nodes := []) (fuel := 4000) ⟨lqX0, fa_cons (⟨⟨2, _, pcv_X0_95, rfl⟩, hh_X0_canBePut_1⟩) (fa_cons (⟨⟨2, _, pcv_X0_113, rfl⟩, hh_X0_hoursFor_4⟩) (fa_nil))⟩ dtX0_putPiece (by decide +kernel)
abbrev cc_X4_putFirsts_0 : scC := (qX4_putFirsts, 5, [], [.inr (.inr (.inl [39]))], [], [(0, (0, 0), [], [], [])], [(26, 0, 24), (39, 1, 1), (40, 0, 8), (41, 3, 1), (42, 0, 8)])
set_option maxRecDepth 20000 in
abbrev xx_X4_putFirsts_0 : scX := (Tx, invX, lnX4, [(85, 0, 0, cc_X0_savedRisk_1), (92, 0, 0, cc_X0_firstOf_1), (96, 0, 0, cc_X0_putPiece_0)], cc_X4_putFirsts_0)
set_option maxRecDepth 20000 in
theorem hh_X4_putFirsts_0 : scH Tx invX cc_X4_putFirsts_0 := scCheck_ok (X := xx_X4_putFirsts_0) (nodes := [(2, ([(0, 8), (0, 8)], [some (.inr (.inr (.inl [39]))), some (.inl (some 0, 0)), none], [], [((3, 9), (some 1, 0))]), ([(-2)], 34)), (42, ([(0, 8), (0, 8), ((-2147483648), 2147483647)], [some (.inr (.inr (.inl [39]))), some (.inl (some 0, 0)), none], [], [((3, 9), (some 1, 0)), ((39, 1), (some 2, 0))]), ([(-2)], 16))]) (fuel := 4000) ⟨lqX4, fa_cons (⟨⟨2, _, pcv_X4_85, rfl⟩, hh_X0_savedRisk_1⟩) (fa_cons (⟨⟨3, _, pcv_X4_92, rfl⟩, hh_X0_firstOf_1⟩) (fa_cons (⟨⟨2, _, pcv_X4_96, rfl⟩, hh_X0_putPiece_0⟩) (fa_nil)))⟩ dtX4_putFirsts (by decide +kernel)
abbrev cc_X0_passWeek_0 : scC := (qX0_passWeek, 0, [], [.inr (.inr (.inl [32])), .inr (.inr (.inl [41]))], [], [(1, (0, 1), [], [], [])], [(41, 2, 2), (42, 0, 8)])
set_option maxRecDepth 20000 in
abbrev xx_X0_passWeek_0 : scX := (Tx, invX, lnX0, [], cc_X0_passWeek_0)
set_option maxRecDepth 20000 in
theorem hh_X0_passWeek_0 : scH Tx invX cc_X0_passWeek_0 := scCheck_ok (X := xx_X0_passWeek_0) (nodes := [(35, ([(0, 8), ((-1), 12), ((-1), 12), (1, 200), ((-2147483648), 2147483647), (0, 8)], [some (.inr (.inr (.inl [32]))), some (.inr (.inr (.inl [41]))), some (.inl (some 0, 0))], [], [((41, 3), (some 1, 0)), ((3, 11), (some 2, 0)), ((41, 2), (some 3, 0)), ((42, 0), (some 4, 0)), ((3, 9), (some 5, 0))]), ([(-2)], 16))]) (fuel := 4000) ⟨lqX0, fa_nil⟩ dtX0_passWeek (by decide +kernel)
abbrev cc_X4_play_0 : scC := (qX4_play, 6, [((-2147483648), 2147483647), ((-2147483648), 2147483647)], [.inr (.inr (.inl [39])), .inr (.inr (.inl [47])), .inl (some 0, 0), .inl (some 1, 0)], [], [(0, (0, 0), [], [], [])], [(26, 0, 24), (39, 1, 1), (39, 4, 1), (40, 0, 8), (41, 1, 6), (42, 0, 8)])
set_option maxRecDepth 20000 in
abbrev xx_X4_play_0 : scX := (Tx, invX, lnX4, [(26, 0, 6, cc_X6_copyFrom_1), (47, 0, 4, cc_X4_drawDeaths_0), (50, 0, 4, cc_X4_putFirsts_0), (53, 0, 0, cc_X0_passWeek_0)], cc_X4_play_0)
set_option maxRecDepth 20000 in
theorem hh_X4_play_0 : scH Tx invX cc_X4_play_0 := scCheck_ok (X := xx_X4_play_0) (nodes := [(45, ([((-2147483648), 2147483647), ((-2147483648), 2147483647), (0, 2147483647), ((-2147483648), 2147483647), ((-2147483648), 2147483647), ((-2147483648), 2147483647), ((-2147483648), 2147483647)], [some (.inr (.inr (.inl [39]))), some (.inr (.inr (.inl [47]))), some (.inl (some 0, 0)), some (.inl (some 1, 0)), some (.inl (some 2, 0))], [], [((39, 4), (some 3, 0)), ((39, 1), (some 4, 0)), ((41, 5), (some 5, 0)), ((41, 4), (some 6, 0))]), ([0, 0, (-2)], 4294967294))]) (fuel := 4000) ⟨lqX4, fa_cons (⟨⟨1, _, pcv_X4_26, rfl⟩, hh_X6_copyFrom_1⟩) (fa_cons (⟨⟨0, _, pcv_X4_47, rfl⟩, hh_X4_drawDeaths_0⟩) (fa_cons (⟨⟨0, _, pcv_X4_50, rfl⟩, hh_X4_putFirsts_0⟩) (fa_cons (⟨⟨1, _, pcv_X4_53, rfl⟩, hh_X0_passWeek_0⟩) (fa_nil))))⟩ dtX4_play (by decide +kernel)
abbrev cc_X10_years_0 : scC := (qX10_years, 7, [((-2147483648), 2147483647), ((-2147483648), 2147483647), ((-2147483648), 2147483647)], [.inr (.inr (.inl [0])), .inl (some 0, 0), .inl (some 1, 0), .inl (some 2, 0)], [], [(1, ((-2147483648), 2147483647), [], [], []), (4, (0, 0), [], [], [])], [(0, 16, 1), (26, 0, 24), (39, 1, 1), (39, 4, 1), (40, 0, 8), (41, 1, 6), (42, 0, 8)])
set_option maxRecDepth 20000 in
abbrev xx_X10_years_0 : scX := (Tx, invX, lnX10, [(169, 0, 10, cc_X10_needWithin_16), (169, 0, 10, cc_X10_needWithin_17), (182, 1, 0, cc_J6_bitCount_0f7a4_0), (342, 0, 4, cc_X4_play_0)], cc_X10_years_0)
set_option maxRecDepth 20000 in
theorem hh_X10_years_0 : scH Tx invX cc_X10_years_0 := scCheck_ok (X := xx_X10_years_0) (nodes := []) (fuel := 4000) ⟨lqX10, fa_cons (⟨⟨3, _, pcv_X10_169, rfl⟩, hh_X10_needWithin_16⟩) (fa_cons (⟨⟨3, _, pcv_X10_169, rfl⟩, hh_X10_needWithin_17⟩) (fa_cons (⟨pcs_X10_182, hh_J6_bitCount_0f7a4_0⟩) (fa_cons (⟨⟨3, _, pcv_X10_342, rfl⟩, hh_X4_play_0⟩) (fa_nil))))⟩ dtX10_years (by decide +kernel)
abbrev cc_X10_needWithin_18 : scC := (qX10_needWithin, 0, [((-2147483648), 2147483647), (1, 1), (20, 20)], [.inr (.inr (.inl [0])), .inl (some 0, 0), .inl (some 1, 0), .inl (some 2, 0)], [], [(0, (0, 0), [], [(0, (1, 20))], []), (4, (0, 0), [], [], [])], [(0, 16, 1)])
set_option maxRecDepth 20000 in
abbrev xx_X10_needWithin_18 : scX := (Tx, invX, lnX10, [], cc_X10_needWithin_18)
set_option maxRecDepth 20000 in
theorem hh_X10_needWithin_18 : scH Tx invX cc_X10_needWithin_18 := scCheck_ok (X := xx_X10_needWithin_18) (nodes := []) (fuel := 4000) ⟨lqX10, fa_nil⟩ dtX10_needWithin (by decide +kernel)
abbrev cc_X10_needWithin_19 : scC := (qX10_needWithin, 0, [((-2147483648), 2147483647), (0, 0), (3, 3)], [.inr (.inr (.inl [0])), .inl (some 0, 0), .inl (some 1, 0), .inl (some 2, 0)], [], [(0, (0, 0), [], [(0, (0, 3))], []), (4, (0, 0), [], [], [])], [(0, 16, 1)])
set_option maxRecDepth 20000 in
abbrev xx_X10_needWithin_19 : scX := (Tx, invX, lnX10, [], cc_X10_needWithin_19)
set_option maxRecDepth 20000 in
theorem hh_X10_needWithin_19 : scH Tx invX cc_X10_needWithin_19 := scCheck_ok (X := xx_X10_needWithin_19) (nodes := []) (fuel := 4000) ⟨lqX10, fa_nil⟩ dtX10_needWithin (by decide +kernel)
abbrev cc_X10_needWithin_20 : scC := (qX10_needWithin, 0, [((-2147483648), 2147483647), (0, 0), ((-1), 7)], [.inr (.inr (.inl [0])), .inl (some 0, 0), .inl (some 1, 0), .inl (some 2, 0)], [], [(0, (0, 0), [], [(0, (0, 7)), (2, (0, 7))], []), (4, (0, 0), [], [], [])], [(0, 16, 1)])
set_option maxRecDepth 20000 in
abbrev xx_X10_needWithin_20 : scX := (Tx, invX, lnX10, [], cc_X10_needWithin_20)
set_option maxRecDepth 20000 in
theorem hh_X10_needWithin_20 : scH Tx invX cc_X10_needWithin_20 := scCheck_ok (X := xx_X10_needWithin_20) (nodes := []) (fuel := 4000) ⟨lqX10, fa_nil⟩ dtX10_needWithin (by decide +kernel)
abbrev cc_X10_span_0 : scC := (qX10_span, 7, [((-2147483648), 2147483647), ((-2147483648), 2147483647), ((-2147483648), 2147483647), ((-2147483648), 2147483647), ((-2147483648), 2147483647)], [.inr (.inr (.inl [0])), .inl (some 0, 0), .inl (some 1, 0), .inl (some 2, 0), .inl (some 3, 0), .inl (some 4, 0)], [], [(1, ((-2147483648), 2147483647), [], [], []), (4, (0, 0), [], [], [])], [(0, 16, 1), (26, 0, 24), (39, 1, 1), (39, 4, 1), (40, 0, 8), (41, 1, 6), (42, 0, 8)])
set_option maxRecDepth 20000 in
abbrev xx_X10_span_0 : scX := (Tx, invX, lnX10, [(169, 0, 10, cc_X10_needWithin_18), (169, 0, 10, cc_X10_needWithin_16), (169, 0, 10, cc_X10_needWithin_19), (169, 0, 10, cc_X10_needWithin_20), (215, 0, 6, cc_X6_isAlive_1), (342, 0, 4, cc_X4_play_0)], cc_X10_span_0)
set_option maxRecDepth 20000 in
theorem hh_X10_span_0 : scH Tx invX cc_X10_span_0 := scCheck_ok (X := xx_X10_span_0) (nodes := [(56, ([((-2147483648), 2147483647), (1, 20), (1, 60), (0, 3), (0, 7), ((-2147483648), 8), (0, 2147483647), ((-2147483648), 2147483647), ((-2147483648), 2147483647), (0, 20), (1, 8), ((-2147483648), 2147483647)], [some (.inr (.inr (.inl [0]))), some (.inl (some 0, 0)), some (.inl (some 1, 0)), some (.inl (some 2, 0)), some (.inl (some 3, 0)), some (.inl (some 4, 0)), some (.inl (some 5, 0)), some (.inl (some 6, 0)), some (.inl (some 7, 0)), some (.inl (some 8, 0)), some (.inl (some 9, 0)), none], [], [((3, 9), (some 10, 0)), ((41, 4), (some 11, 0))]), ([0, 0, 0, 0, 0, 0, 0, 0, 0, (-2)], 40))]) (fuel := 4000) ⟨lqX10, fa_cons (⟨⟨3, _, pcv_X10_169, rfl⟩, hh_X10_needWithin_18⟩) (fa_cons (⟨⟨3, _, pcv_X10_169, rfl⟩, hh_X10_needWithin_16⟩) (fa_cons (⟨⟨3, _, pcv_X10_169, rfl⟩, hh_X10_needWithin_19⟩) (fa_cons (⟨⟨3, _, pcv_X10_169, rfl⟩, hh_X10_needWithin_20⟩) (fa_cons (⟨⟨1, _, pcv_X10_215, rfl⟩, hh_X6_isAlive_1⟩) (fa_cons (⟨⟨3, _, pcv_X10_342, rfl⟩, hh_X4_play_0⟩) (fa_nil))))))⟩ dtX10_span (by decide +kernel)
abbrev cc_X6_copyFrom_2 : scC := (qX6_copyFrom, 0, [], [.inr (.inr (.inl [83, 119, 155])), .inr (.inr (.inl [47]))], [], [(0, (0, 0), [], [], [])], [(83, 1, 6), (84, 0, 8), (119, 1, 6), (120, 0, 8), (155, 1, 6), (156, 0, 8)])
set_option maxRecDepth 20000 in
abbrev xx_X6_copyFrom_2 : scX := (Tx, invX, lnX6, [], cc_X6_copyFrom_2)
set_option maxRecDepth 20000 in
theorem hh_X6_copyFrom_2 : scH Tx invX cc_X6_copyFrom_2 := scCheck_ok (X := xx_X6_copyFrom_2) (nodes := []) (fuel := 4000) ⟨lqX6, fa_nil⟩ dtX6_copyFrom (by decide +kernel)
abbrev cc_X6_copyFrom_3 : scC := (qX6_copyFrom, 0, [], [.inr (.inr (.inl [86, 122, 158])), .inr (.inr (.inl [50]))], [], [(0, (0, 0), [], [], [])], [(86, 1, 6), (102, 0, 8), (122, 1, 6), (138, 0, 8), (158, 1, 6), (174, 0, 8)])
set_option maxRecDepth 20000 in
abbrev xx_X6_copyFrom_3 : scX := (Tx, invX, lnX6, [], cc_X6_copyFrom_3)
set_option maxRecDepth 20000 in
theorem hh_X6_copyFrom_3 : scH Tx invX cc_X6_copyFrom_3 := scCheck_ok (X := xx_X6_copyFrom_3) (nodes := []) (fuel := 4000) ⟨lqX6, fa_nil⟩ dtX6_copyFrom (by decide +kernel)
abbrev cc_X6_copyFrom_4 : scC := (qX6_copyFrom, 0, [], [.inr (.inr (.inl [86, 87, 122, 123, 158, 159])), .inr (.inr (.inl [50, 51]))], [], [(0, (0, 0), [], [], [])], [(86, 1, 6), (87, 1, 6), (102, 0, 8), (103, 0, 8), (122, 1, 6), (123, 1, 6), (138, 0, 8), (139, 0, 8), (158, 1, 6), (159, 1, 6), (174, 0, 8), (175, 0, 8)])
set_option maxRecDepth 20000 in
abbrev xx_X6_copyFrom_4 : scX := (Tx, invX, lnX6, [], cc_X6_copyFrom_4)
set_option maxRecDepth 20000 in
theorem hh_X6_copyFrom_4 : scH Tx invX cc_X6_copyFrom_4 := scCheck_ok (X := xx_X6_copyFrom_4) (nodes := []) (fuel := 4000) ⟨lqX6, fa_nil⟩ dtX6_copyFrom (by decide +kernel)
abbrev cc_X6_copyFrom_5 : scC := (qX6_copyFrom, 0, [], [.inr (.inr (.inl [86, 87, 88, 122, 123, 124, 158, 159, 160])), .inr (.inr (.inl [50, 51, 52]))], [], [(0, (0, 0), [], [], [])], [(86, 1, 6), (87, 1, 6), (88, 1, 6), (102, 0, 8), (103, 0, 8), (104, 0, 8), (122, 1, 6), (123, 1, 6), (124, 1, 6), (138, 0, 8), (139, 0, 8), (140, 0, 8), (158, 1, 6), (159, 1, 6), (160, 1, 6), (174, 0, 8), (175, 0, 8), (176, 0, 8)])
set_option maxRecDepth 20000 in
abbrev xx_X6_copyFrom_5 : scX := (Tx, invX, lnX6, [], cc_X6_copyFrom_5)
set_option maxRecDepth 20000 in
theorem hh_X6_copyFrom_5 : scH Tx invX cc_X6_copyFrom_5 := scCheck_ok (X := xx_X6_copyFrom_5) (nodes := []) (fuel := 4000) ⟨lqX6, fa_nil⟩ dtX6_copyFrom (by decide +kernel)
abbrev cc_X6_copyFrom_6 : scC := (qX6_copyFrom, 0, [], [.inr (.inr (.inl [86, 87, 88, 89, 90, 91, 92, 93, 122, 123, 124, 125, 126, 127, 128, 129, 158, 159, 160, 161, 162, 163, 164, 165])), .inr (.inr (.inl [50, 51, 52, 53, 54, 55, 56, 57]))], [], [(0, (0, 0), [], [], [])], [(86, 1, 6), (87, 1, 6), (88, 1, 6), (89, 1, 6), (90, 1, 6), (91, 1, 6), (92, 1, 6), (93, 1, 6), (102, 0, 8), (103, 0, 8), (104, 0, 8), (105, 0, 8), (106, 0, 8), (107, 0, 8), (108, 0, 8), (109, 0, 8), (122, 1, 6), (123, 1, 6), (124, 1, 6), (125, 1, 6), (126, 1, 6), (127, 1, 6), (128, 1, 6), (129, 1, 6), (138, 0, 8), (139, 0, 8), (140, 0, 8), (141, 0, 8), (142, 0, 8), (143, 0, 8), (144, 0, 8), (145, 0, 8), (158, 1, 6), (159, 1, 6), (160, 1, 6), (161, 1, 6), (162, 1, 6), (163, 1, 6), (164, 1, 6), (165, 1, 6), (174, 0, 8), (175, 0, 8), (176, 0, 8), (177, 0, 8), (178, 0, 8), (179, 0, 8), (180, 0, 8), (181, 0, 8)])
set_option maxRecDepth 20000 in
abbrev xx_X6_copyFrom_6 : scX := (Tx, invX, lnX6, [], cc_X6_copyFrom_6)
set_option maxRecDepth 20000 in
theorem hh_X6_copyFrom_6 : scH Tx invX cc_X6_copyFrom_6 := scCheck_ok (X := xx_X6_copyFrom_6) (nodes := []) (fuel := 4000) ⟨lqX6, fa_nil⟩ dtX6_copyFrom (by decide +kernel)
abbrev cc_X6_copyFrom_7 : scC := (qX6_copyFrom, 0, [], [.inr (.inr (.inl [86, 87, 88, 89, 90, 91, 92, 93, 94, 122, 123, 124, 125, 126, 127, 128, 129, 130, 158, 159, 160, 161, 162, 163, 164, 165, 166])), .inr (.inr (.inl [50, 51, 52, 53, 54, 55, 56, 57, 58]))], [], [(0, (0, 0), [], [], [])], [(86, 1, 6), (87, 1, 6), (88, 1, 6), (89, 1, 6), (90, 1, 6), (91, 1, 6), (92, 1, 6), (93, 1, 6), (94, 1, 6), (102, 0, 8), (103, 0, 8), (104, 0, 8), (105, 0, 8), (106, 0, 8), (107, 0, 8), (108, 0, 8), (109, 0, 8), (110, 0, 8), (122, 1, 6), (123, 1, 6), (124, 1, 6), (125, 1, 6), (126, 1, 6), (127, 1, 6), (128, 1, 6), (129, 1, 6), (130, 1, 6), (138, 0, 8), (139, 0, 8), (140, 0, 8), (141, 0, 8), (142, 0, 8), (143, 0, 8), (144, 0, 8), (145, 0, 8), (146, 0, 8), (158, 1, 6), (159, 1, 6), (160, 1, 6), (161, 1, 6), (162, 1, 6), (163, 1, 6), (164, 1, 6), (165, 1, 6), (166, 1, 6), (174, 0, 8), (175, 0, 8), (176, 0, 8), (177, 0, 8), (178, 0, 8), (179, 0, 8), (180, 0, 8), (181, 0, 8), (182, 0, 8)])
set_option maxRecDepth 20000 in
abbrev xx_X6_copyFrom_7 : scX := (Tx, invX, lnX6, [], cc_X6_copyFrom_7)
set_option maxRecDepth 20000 in
theorem hh_X6_copyFrom_7 : scH Tx invX cc_X6_copyFrom_7 := scCheck_ok (X := xx_X6_copyFrom_7) (nodes := []) (fuel := 4000) ⟨lqX6, fa_nil⟩ dtX6_copyFrom (by decide +kernel)
abbrev cc_X6_copyFrom_8 : scC := (qX6_copyFrom, 0, [], [.inr (.inr (.inl [86, 87, 88, 89, 90, 91, 92, 93, 94, 95, 96, 97, 98, 99, 100, 101, 122, 123, 124, 125, 126, 127, 128, 129, 130, 131, 132, 133, 134, 135, 136, 137, 158, 159, 160, 161, 162, 163, 164, 165, 166, 167, 168, 169, 170, 171, 172, 173])), .inr (.inr (.inl [50, 51, 52, 53, 54, 55, 56, 57, 58, 59, 60, 61, 62, 63, 64, 65]))], [], [(0, (0, 0), [], [], [])], [(86, 1, 6), (87, 1, 6), (88, 1, 6), (89, 1, 6), (90, 1, 6), (91, 1, 6), (92, 1, 6), (93, 1, 6), (94, 1, 6), (95, 1, 6), (96, 1, 6), (97, 1, 6), (98, 1, 6), (99, 1, 6), (100, 1, 6), (101, 1, 6), (102, 0, 8), (103, 0, 8), (104, 0, 8), (105, 0, 8), (106, 0, 8), (107, 0, 8), (108, 0, 8), (109, 0, 8), (110, 0, 8), (111, 0, 8), (112, 0, 8), (113, 0, 8), (114, 0, 8), (115, 0, 8), (116, 0, 8), (117, 0, 8), (122, 1, 6), (123, 1, 6), (124, 1, 6), (125, 1, 6), (126, 1, 6), (127, 1, 6), (128, 1, 6), (129, 1, 6), (130, 1, 6), (131, 1, 6), (132, 1, 6), (133, 1, 6), (134, 1, 6), (135, 1, 6), (136, 1, 6), (137, 1, 6), (138, 0, 8), (139, 0, 8), (140, 0, 8), (141, 0, 8), (142, 0, 8), (143, 0, 8), (144, 0, 8), (145, 0, 8), (146, 0, 8), (147, 0, 8), (148, 0, 8), (149, 0, 8), (150, 0, 8), (151, 0, 8), (152, 0, 8), (153, 0, 8), (158, 1, 6), (159, 1, 6), (160, 1, 6), (161, 1, 6), (162, 1, 6), (163, 1, 6), (164, 1, 6), (165, 1, 6), (166, 1, 6), (167, 1, 6), (168, 1, 6), (169, 1, 6), (170, 1, 6), (171, 1, 6), (172, 1, 6), (173, 1, 6), (174, 0, 8), (175, 0, 8), (176, 0, 8), (177, 0, 8), (178, 0, 8), (179, 0, 8), (180, 0, 8), (181, 0, 8), (182, 0, 8), (183, 0, 8), (184, 0, 8), (185, 0, 8), (186, 0, 8), (187, 0, 8), (188, 0, 8), (189, 0, 8)])
set_option maxRecDepth 20000 in
abbrev xx_X6_copyFrom_8 : scX := (Tx, invX, lnX6, [], cc_X6_copyFrom_8)
set_option maxRecDepth 20000 in
theorem hh_X6_copyFrom_8 : scH Tx invX cc_X6_copyFrom_8 := scCheck_ok (X := xx_X6_copyFrom_8) (nodes := []) (fuel := 4000) ⟨lqX6, fa_nil⟩ dtX6_copyFrom (by decide +kernel)
abbrev cc_X5_copyFrom_0 : scC := (qX5_copyFrom, 1, [], [.inr (.inr (.inl [82, 118, 154])), .inr (.inr (.inl [46]))], [], [(0, (0, 0), [], [], [])], [(82, 2, 1), (83, 1, 6), (84, 0, 8), (86, 1, 6), (87, 1, 6), (88, 1, 6), (89, 1, 6), (90, 1, 6), (91, 1, 6), (92, 1, 6), (93, 1, 6), (94, 1, 6), (95, 1, 6), (96, 1, 6), (97, 1, 6), (98, 1, 6), (99, 1, 6), (100, 1, 6), (101, 1, 6), (102, 0, 8), (103, 0, 8), (104, 0, 8), (105, 0, 8), (106, 0, 8), (107, 0, 8), (108, 0, 8), (109, 0, 8), (110, 0, 8), (111, 0, 8), (112, 0, 8), (113, 0, 8), (114, 0, 8), (115, 0, 8), (116, 0, 8), (117, 0, 8), (118, 2, 1), (119, 1, 6), (120, 0, 8), (122, 1, 6), (123, 1, 6), (124, 1, 6), (125, 1, 6), (126, 1, 6), (127, 1, 6), (128, 1, 6), (129, 1, 6), (130, 1, 6), (131, 1, 6), (132, 1, 6), (133, 1, 6), (134, 1, 6), (135, 1, 6), (136, 1, 6), (137, 1, 6), (138, 0, 8), (139, 0, 8), (140, 0, 8), (141, 0, 8), (142, 0, 8), (143, 0, 8), (144, 0, 8), (145, 0, 8), (146, 0, 8), (147, 0, 8), (148, 0, 8), (149, 0, 8), (150, 0, 8), (151, 0, 8), (152, 0, 8), (153, 0, 8), (154, 2, 1), (155, 1, 6), (156, 0, 8), (158, 1, 6), (159, 1, 6), (160, 1, 6), (161, 1, 6), (162, 1, 6), (163, 1, 6), (164, 1, 6), (165, 1, 6), (166, 1, 6), (167, 1, 6), (168, 1, 6), (169, 1, 6), (170, 1, 6), (171, 1, 6), (172, 1, 6), (173, 1, 6), (174, 0, 8), (175, 0, 8), (176, 0, 8), (177, 0, 8), (178, 0, 8), (179, 0, 8), (180, 0, 8), (181, 0, 8), (182, 0, 8), (183, 0, 8), (184, 0, 8), (185, 0, 8), (186, 0, 8), (187, 0, 8), (188, 0, 8), (189, 0, 8)])
set_option maxRecDepth 20000 in
abbrev xx_X5_copyFrom_0 : scX := (Tx, invX, lnX5, [(26, 0, 6, cc_X6_copyFrom_2), (26, 0, 6, cc_X6_copyFrom_3), (26, 0, 6, cc_X6_copyFrom_4), (26, 0, 6, cc_X6_copyFrom_5), (26, 0, 6, cc_X6_copyFrom_6), (26, 0, 6, cc_X6_copyFrom_7), (26, 0, 6, cc_X6_copyFrom_8)], cc_X5_copyFrom_0)
set_option maxRecDepth 20000 in
theorem hh_X5_copyFrom_0 : scH Tx invX cc_X5_copyFrom_0 := scCheck_ok (X := xx_X5_copyFrom_0) (nodes := [(21, ([(0, 16), (0, 16)], [some (.inr (.inr (.inl [82, 118, 154]))), some (.inr (.inr (.inl [46]))), some (.inl (some 0, 0))], [], [((46, 2), (some 1, 0))]), ([(-2)], 32))]) (fuel := 4000) ⟨lqX5, fa_cons (⟨⟨1, _, pcv_X5_26, rfl⟩, hh_X6_copyFrom_2⟩) (fa_cons (⟨⟨1, _, pcv_X5_26, rfl⟩, hh_X6_copyFrom_3⟩) (fa_cons (⟨⟨1, _, pcv_X5_26, rfl⟩, hh_X6_copyFrom_4⟩) (fa_cons (⟨⟨1, _, pcv_X5_26, rfl⟩, hh_X6_copyFrom_5⟩) (fa_cons (⟨⟨1, _, pcv_X5_26, rfl⟩, hh_X6_copyFrom_6⟩) (fa_cons (⟨⟨1, _, pcv_X5_26, rfl⟩, hh_X6_copyFrom_7⟩) (fa_cons (⟨⟨1, _, pcv_X5_26, rfl⟩, hh_X6_copyFrom_8⟩) (fa_nil)))))))⟩ dtX5_copyFrom (by decide +kernel)
abbrev cc_X10_image_0 : scC := (qX10_image, 2, [], [.inr (.inr (.inl [0]))], [], [(1, ((-1), 3), [], [], [])], [(0, 13, 1), (82, 2, 1), (83, 1, 6), (84, 0, 8), (86, 1, 6), (87, 1, 6), (88, 1, 6), (89, 1, 6), (90, 1, 6), (91, 1, 6), (92, 1, 6), (93, 1, 6), (94, 1, 6), (95, 1, 6), (96, 1, 6), (97, 1, 6), (98, 1, 6), (99, 1, 6), (100, 1, 6), (101, 1, 6), (102, 0, 8), (103, 0, 8), (104, 0, 8), (105, 0, 8), (106, 0, 8), (107, 0, 8), (108, 0, 8), (109, 0, 8), (110, 0, 8), (111, 0, 8), (112, 0, 8), (113, 0, 8), (114, 0, 8), (115, 0, 8), (116, 0, 8), (117, 0, 8), (118, 2, 1), (119, 1, 6), (120, 0, 8), (122, 1, 6), (123, 1, 6), (124, 1, 6), (125, 1, 6), (126, 1, 6), (127, 1, 6), (128, 1, 6), (129, 1, 6), (130, 1, 6), (131, 1, 6), (132, 1, 6), (133, 1, 6), (134, 1, 6), (135, 1, 6), (136, 1, 6), (137, 1, 6), (138, 0, 8), (139, 0, 8), (140, 0, 8), (141, 0, 8), (142, 0, 8), (143, 0, 8), (144, 0, 8), (145, 0, 8), (146, 0, 8), (147, 0, 8), (148, 0, 8), (149, 0, 8), (150, 0, 8), (151, 0, 8), (152, 0, 8), (153, 0, 8), (154, 2, 1), (155, 1, 6), (156, 0, 8), (158, 1, 6), (159, 1, 6), (160, 1, 6), (161, 1, 6), (162, 1, 6), (163, 1, 6), (164, 1, 6), (165, 1, 6), (166, 1, 6), (167, 1, 6), (168, 1, 6), (169, 1, 6), (170, 1, 6), (171, 1, 6), (172, 1, 6), (173, 1, 6), (174, 0, 8), (175, 0, 8), (176, 0, 8), (177, 0, 8), (178, 0, 8), (179, 0, 8), (180, 0, 8), (181, 0, 8), (182, 0, 8), (183, 0, 8), (184, 0, 8), (185, 0, 8), (186, 0, 8), (187, 0, 8), (188, 0, 8), (189, 0, 8)])
set_option maxRecDepth 20000 in
abbrev xx_X10_image_0 : scX := (Tx, invX, lnX10, [(360, 0, 5, cc_X5_copyFrom_0)], cc_X10_image_0)
set_option maxRecDepth 20000 in
theorem hh_X10_image_0 : scH Tx invX cc_X10_image_0 := scCheck_ok (X := xx_X10_image_0) (nodes := []) (fuel := 4000) ⟨lqX10, fa_cons (⟨⟨1, _, pcv_X10_360, rfl⟩, hh_X5_copyFrom_0⟩) (fa_nil)⟩ dtX10_image (by decide +kernel)
abbrev cc_X6_copyFrom_9 : scC := (qX6_copyFrom, 0, [], [.inr (.inr (.inl [47])), .inr (.inr (.inl [83, 119, 155]))], [], [(0, (0, 0), [], [], [])], [(47, 1, 6), (48, 0, 8)])
set_option maxRecDepth 20000 in
abbrev xx_X6_copyFrom_9 : scX := (Tx, invX, lnX6, [], cc_X6_copyFrom_9)
set_option maxRecDepth 20000 in
theorem hh_X6_copyFrom_9 : scH Tx invX cc_X6_copyFrom_9 := scCheck_ok (X := xx_X6_copyFrom_9) (nodes := []) (fuel := 4000) ⟨lqX6, fa_nil⟩ dtX6_copyFrom (by decide +kernel)
abbrev cc_X6_copyFrom_10 : scC := (qX6_copyFrom, 0, [], [.inr (.inr (.inl [50])), .inr (.inr (.inl [86, 122, 158]))], [], [(0, (0, 0), [], [], [])], [(50, 1, 6), (66, 0, 8)])
set_option maxRecDepth 20000 in
abbrev xx_X6_copyFrom_10 : scX := (Tx, invX, lnX6, [], cc_X6_copyFrom_10)
set_option maxRecDepth 20000 in
theorem hh_X6_copyFrom_10 : scH Tx invX cc_X6_copyFrom_10 := scCheck_ok (X := xx_X6_copyFrom_10) (nodes := []) (fuel := 4000) ⟨lqX6, fa_nil⟩ dtX6_copyFrom (by decide +kernel)
abbrev cc_X6_copyFrom_11 : scC := (qX6_copyFrom, 0, [], [.inr (.inr (.inl [50, 51])), .inr (.inr (.inl [86, 87, 122, 123, 158, 159]))], [], [(0, (0, 0), [], [], [])], [(50, 1, 6), (51, 1, 6), (66, 0, 8), (67, 0, 8)])
set_option maxRecDepth 20000 in
abbrev xx_X6_copyFrom_11 : scX := (Tx, invX, lnX6, [], cc_X6_copyFrom_11)
set_option maxRecDepth 20000 in
theorem hh_X6_copyFrom_11 : scH Tx invX cc_X6_copyFrom_11 := scCheck_ok (X := xx_X6_copyFrom_11) (nodes := []) (fuel := 4000) ⟨lqX6, fa_nil⟩ dtX6_copyFrom (by decide +kernel)
abbrev cc_X6_copyFrom_12 : scC := (qX6_copyFrom, 0, [], [.inr (.inr (.inl [50, 51, 52])), .inr (.inr (.inl [86, 87, 88, 122, 123, 124, 158, 159, 160]))], [], [(0, (0, 0), [], [], [])], [(50, 1, 6), (51, 1, 6), (52, 1, 6), (66, 0, 8), (67, 0, 8), (68, 0, 8)])
set_option maxRecDepth 20000 in
abbrev xx_X6_copyFrom_12 : scX := (Tx, invX, lnX6, [], cc_X6_copyFrom_12)
set_option maxRecDepth 20000 in
theorem hh_X6_copyFrom_12 : scH Tx invX cc_X6_copyFrom_12 := scCheck_ok (X := xx_X6_copyFrom_12) (nodes := []) (fuel := 4000) ⟨lqX6, fa_nil⟩ dtX6_copyFrom (by decide +kernel)
abbrev cc_X6_copyFrom_13 : scC := (qX6_copyFrom, 0, [], [.inr (.inr (.inl [50, 51, 52, 53, 54, 55, 56, 57])), .inr (.inr (.inl [86, 87, 88, 89, 90, 91, 92, 93, 122, 123, 124, 125, 126, 127, 128, 129, 158, 159, 160, 161, 162, 163, 164, 165]))], [], [(0, (0, 0), [], [], [])], [(50, 1, 6), (51, 1, 6), (52, 1, 6), (53, 1, 6), (54, 1, 6), (55, 1, 6), (56, 1, 6), (57, 1, 6), (66, 0, 8), (67, 0, 8), (68, 0, 8), (69, 0, 8), (70, 0, 8), (71, 0, 8), (72, 0, 8), (73, 0, 8)])
set_option maxRecDepth 20000 in
abbrev xx_X6_copyFrom_13 : scX := (Tx, invX, lnX6, [], cc_X6_copyFrom_13)
set_option maxRecDepth 20000 in
theorem hh_X6_copyFrom_13 : scH Tx invX cc_X6_copyFrom_13 := scCheck_ok (X := xx_X6_copyFrom_13) (nodes := []) (fuel := 4000) ⟨lqX6, fa_nil⟩ dtX6_copyFrom (by decide +kernel)
end
-- P 10ke
section
abbrev cc_X6_copyFrom_14 : scC := (qX6_copyFrom, 0, [], [.inr (.inr (.inl [50, 51, 52, 53, 54, 55, 56, 57, 58])), .inr (.inr (.inl [86, 87, 88, 89, 90, 91, 92, 93, 94, 122, 123, 124, 125, 126, 127, 128, 129, 130, 158, 159, 160, 161, 162, 163, 164, 165, 166]))], [], [(0, (0, 0), [], [], [])], [(50, 1, 6), (51, 1, 6), (52, 1, 6), (53, 1, 6), (54, 1, 6), (55, 1, 6), (56, 1, 6), (57, 1, 6), (58, 1, 6), (66, 0, 8), (67, 0, 8), (68, 0, 8), (69, 0, 8), (70, 0, 8), (71, 0, 8), (72, 0, 8), (73, 0, 8), (74, 0, 8)])
set_option maxRecDepth 20000 in
abbrev xx_X6_copyFrom_14 : scX := (Tx, invX, lnX6, [], cc_X6_copyFrom_14)
set_option maxRecDepth 20000 in
theorem hh_X6_copyFrom_14 : scH Tx invX cc_X6_copyFrom_14 := scCheck_ok (X := xx_X6_copyFrom_14) (nodes := []) (fuel := 4000) ⟨lqX6, fa_nil⟩ dtX6_copyFrom (by decide +kernel)
abbrev cc_X6_copyFrom_15 : scC := (qX6_copyFrom, 0, [], [.inr (.inr (.inl [50, 51, 52, 53, 54, 55, 56, 57, 58, 59, 60, 61, 62, 63, 64, 65])), .inr (.inr (.inl [86, 87, 88, 89, 90, 91, 92, 93, 94, 95, 96, 97, 98, 99, 100, 101, 122, 123, 124, 125, 126, 127, 128, 129, 130, 131, 132, 133, 134, 135, 136, 137, 158, 159, 160, 161, 162, 163, 164, 165, 166, 167, 168, 169, 170, 171, 172, 173]))], [], [(0, (0, 0), [], [], [])], [(50, 1, 6), (51, 1, 6), (52, 1, 6), (53, 1, 6), (54, 1, 6), (55, 1, 6), (56, 1, 6), (57, 1, 6), (58, 1, 6), (59, 1, 6), (60, 1, 6), (61, 1, 6), (62, 1, 6), (63, 1, 6), (64, 1, 6), (65, 1, 6), (66, 0, 8), (67, 0, 8), (68, 0, 8), (69, 0, 8), (70, 0, 8), (71, 0, 8), (72, 0, 8), (73, 0, 8), (74, 0, 8), (75, 0, 8), (76, 0, 8), (77, 0, 8), (78, 0, 8), (79, 0, 8), (80, 0, 8), (81, 0, 8)])
set_option maxRecDepth 20000 in
abbrev xx_X6_copyFrom_15 : scX := (Tx, invX, lnX6, [], cc_X6_copyFrom_15)
set_option maxRecDepth 20000 in
theorem hh_X6_copyFrom_15 : scH Tx invX cc_X6_copyFrom_15 := scCheck_ok (X := xx_X6_copyFrom_15) (nodes := []) (fuel := 4000) ⟨lqX6, fa_nil⟩ dtX6_copyFrom (by decide +kernel)
abbrev cc_X5_copyFrom_1 : scC := (qX5_copyFrom, 1, [], [.inr (.inr (.inl [46])), .inr (.inr (.inl [82, 118, 154]))], [], [(0, (0, 0), [], [], [])], [(46, 2, 1), (47, 1, 6), (48, 0, 8), (50, 1, 6), (51, 1, 6), (52, 1, 6), (53, 1, 6), (54, 1, 6), (55, 1, 6), (56, 1, 6), (57, 1, 6), (58, 1, 6), (59, 1, 6), (60, 1, 6), (61, 1, 6), (62, 1, 6), (63, 1, 6), (64, 1, 6), (65, 1, 6), (66, 0, 8), (67, 0, 8), (68, 0, 8), (69, 0, 8), (70, 0, 8), (71, 0, 8), (72, 0, 8), (73, 0, 8), (74, 0, 8), (75, 0, 8), (76, 0, 8), (77, 0, 8), (78, 0, 8), (79, 0, 8), (80, 0, 8), (81, 0, 8)])
set_option maxRecDepth 20000 in
abbrev xx_X5_copyFrom_1 : scX := (Tx, invX, lnX5, [(26, 0, 6, cc_X6_copyFrom_9), (26, 0, 6, cc_X6_copyFrom_10), (26, 0, 6, cc_X6_copyFrom_11), (26, 0, 6, cc_X6_copyFrom_12), (26, 0, 6, cc_X6_copyFrom_13), (26, 0, 6, cc_X6_copyFrom_14), (26, 0, 6, cc_X6_copyFrom_15)], cc_X5_copyFrom_1)
set_option maxRecDepth 20000 in
theorem hh_X5_copyFrom_1 : scH Tx invX cc_X5_copyFrom_1 := scCheck_ok (X := xx_X5_copyFrom_1) (nodes := [(21, ([(0, 16), (0, 16)], [some (.inr (.inr (.inl [46]))), some (.inr (.inr (.inl [82, 118, 154]))), some (.inl (some 0, 0))], [], [((46, 2), (some 1, 0))]), ([(-2)], 32))]) (fuel := 4000) ⟨lqX5, fa_cons (⟨⟨1, _, pcv_X5_26, rfl⟩, hh_X6_copyFrom_9⟩) (fa_cons (⟨⟨1, _, pcv_X5_26, rfl⟩, hh_X6_copyFrom_10⟩) (fa_cons (⟨⟨1, _, pcv_X5_26, rfl⟩, hh_X6_copyFrom_11⟩) (fa_cons (⟨⟨1, _, pcv_X5_26, rfl⟩, hh_X6_copyFrom_12⟩) (fa_cons (⟨⟨1, _, pcv_X5_26, rfl⟩, hh_X6_copyFrom_13⟩) (fa_cons (⟨⟨1, _, pcv_X5_26, rfl⟩, hh_X6_copyFrom_14⟩) (fa_cons (⟨⟨1, _, pcv_X5_26, rfl⟩, hh_X6_copyFrom_15⟩) (fa_nil)))))))⟩ dtX5_copyFrom (by decide +kernel)
abbrev cc_X10_restore_0 : scC := (qX10_restore, 2, [], [.inr (.inr (.inl [0]))], [], [(1, ((-1), 2), [], [], [])], [(0, 13, 2), (34, 5, 1), (46, 2, 1), (47, 1, 6), (48, 0, 8), (50, 1, 6), (51, 1, 6), (52, 1, 6), (53, 1, 6), (54, 1, 6), (55, 1, 6), (56, 1, 6), (57, 1, 6), (58, 1, 6), (59, 1, 6), (60, 1, 6), (61, 1, 6), (62, 1, 6), (63, 1, 6), (64, 1, 6), (65, 1, 6), (66, 0, 8), (67, 0, 8), (68, 0, 8), (69, 0, 8), (70, 0, 8), (71, 0, 8), (72, 0, 8), (73, 0, 8), (74, 0, 8), (75, 0, 8), (76, 0, 8), (77, 0, 8), (78, 0, 8), (79, 0, 8), (80, 0, 8), (81, 0, 8)])
set_option maxRecDepth 20000 in
abbrev xx_X10_restore_0 : scX := (Tx, invX, lnX10, [(135, 0, 3, cc_X3_forget_0), (360, 0, 5, cc_X5_copyFrom_1)], cc_X10_restore_0)
set_option maxRecDepth 20000 in
theorem hh_X10_restore_0 : scH Tx invX cc_X10_restore_0 := scCheck_ok (X := xx_X10_restore_0) (nodes := []) (fuel := 4000) ⟨lqX10, fa_cons (⟨⟨0, _, pcv_X10_135, rfl⟩, hh_X3_forget_0⟩) (fa_cons (⟨⟨1, _, pcv_X10_360, rfl⟩, hh_X5_copyFrom_1⟩) (fa_nil))⟩ dtX10_restore (by decide +kernel)
abbrev cc_X10_status_0 : scC := (qX10_status, 0, [((-2147483648), 2147483647)], [.inr (.inr (.inl [0])), .inl (some 0, 0)], [], [(1, ((-2147483648), 2147483647), [], [], [])], [])
set_option maxRecDepth 20000 in
abbrev xx_X10_status_0 : scX := (Tx, invX, lnX10, [], cc_X10_status_0)
set_option maxRecDepth 20000 in
theorem hh_X10_status_0 : scH Tx invX cc_X10_status_0 := scCheck_ok (X := xx_X10_status_0) (nodes := []) (fuel := 4000) ⟨lqX10, fa_nil⟩ dtX10_status (by decide +kernel)
abbrev cc_X10_count_0 : scC := (qX10_count, 0, [((-2147483648), 2147483647)], [.inr (.inr (.inl [0])), .inl (some 0, 0)], [], [(1, ((-1), 600), [], [], [])], [])
set_option maxRecDepth 20000 in
abbrev xx_X10_count_0 : scX := (Tx, invX, lnX10, [], cc_X10_count_0)
set_option maxRecDepth 20000 in
theorem hh_X10_count_0 : scH Tx invX cc_X10_count_0 := scCheck_ok (X := xx_X10_count_0) (nodes := []) (fuel := 4000) ⟨lqX10, fa_nil⟩ dtX10_count (by decide +kernel)
abbrev cc_X7_takeNumber_21 : scC := (qX7_takeNumber, 2, [(0, 0), (20, 20), (0, 3)], [.inr (.inr (.inl [1])), .inl (some 0, 0), .inl (some 1, 0)], [((1, 4), (some 2, 0))], [(1, (0, 20), [], [], [((1, 4), (0, 3))]), (1, ((-1), (-1)), [], [], [((1, 4), (1, 3))])], [(1, 3, 3)])
set_option maxRecDepth 20000 in
abbrev xx_X7_takeNumber_21 : scX := (Tx, invX, lnX7, [(35, 0, 7, cc_X7_fail_1), (35, 0, 7, cc_X7_fail_0), (35, 0, 7, cc_X7_fail_2), (39, 0, 7, cc_X7_nextPlace_0)], cc_X7_takeNumber_21)
set_option maxRecDepth 20000 in
theorem hh_X7_takeNumber_21 : scH Tx invX cc_X7_takeNumber_21 := scCheck_ok (X := xx_X7_takeNumber_21) (nodes := [(8, ([(0, 0), (20, 20), (0, 600), ((-2147483648), 1000000), (0, 3), (0, 600), (0, 600)], [some (.inr (.inr (.inl [1]))), some (.inl (some 0, 0)), some (.inl (some 1, 0)), some (.inl (some 2, 0)), some (.inl (some 3, 0))], [], [((1, 4), (some 4, 0)), ((1, 3), (some 5, 0)), ((1, 2), (some 6, 0))]), ([0, 0, 0, 0, 0, (-2)], 1200))]) (fuel := 4000) ⟨lqX7, fa_cons (⟨⟨2, _, pcv_X7_35, rfl⟩, hh_X7_fail_1⟩) (fa_cons (⟨⟨2, _, pcv_X7_35, rfl⟩, hh_X7_fail_0⟩) (fa_cons (⟨⟨2, _, pcv_X7_35, rfl⟩, hh_X7_fail_2⟩) (fa_cons (⟨⟨0, _, pcv_X7_39, rfl⟩, hh_X7_nextPlace_0⟩) (fa_nil))))⟩ dtX7_takeNumber (by decide +kernel)
abbrev cc_X7_takeWord_2 : scC := (qX7_takeWord, 5, [], [.inr (.inr (.inl [1])), .inr (.inr (.inr 4))], [], [(1, ((-1), 4), [], [], [])], [(1, 3, 3)])
set_option maxRecDepth 20000 in
abbrev xx_X7_takeWord_2 : scX := (Tx, invX, lnX7, [(35, 0, 7, cc_X7_fail_0), (39, 0, 7, cc_X7_nextPlace_0), (49, 0, 7, cc_X7_find_2)], cc_X7_takeWord_2)
set_option maxRecDepth 20000 in
theorem hh_X7_takeWord_2 : scH Tx invX cc_X7_takeWord_2 := scCheck_ok (X := xx_X7_takeWord_2) (nodes := [(7, ([(0, 600), (0, 600), (0, 600)], [some (.inr (.inr (.inl [1]))), some (.inr (.inr (.inr 4))), some (.inl (some 0, 0)), some (.inl (some 1, 0)), none], [], [((1, 2), (some 2, 0))]), ([0, (-2)], 1200))]) (fuel := 4000) ⟨lqX7, fa_cons (⟨⟨2, _, pcv_X7_35, rfl⟩, hh_X7_fail_0⟩) (fa_cons (⟨⟨0, _, pcv_X7_39, rfl⟩, hh_X7_nextPlace_0⟩) (fa_cons (⟨⟨3, _, pcv_X7_49, rfl⟩, hh_X7_find_2⟩) (fa_nil)))⟩ dtX7_takeWord (by decide +kernel)
abbrev cc_X0_letDie_1 : scC := (qX0_letDie, 4, [(0, 7)], [.inr (.inr (.inl [32])), .inr (.inr (.inl [47])), .inl (some 0, 0)], [], [(1, (0, 1), [], [], [])], [(26, 0, 24), (47, 1, 1), (47, 3, 4), (48, 0, 8)])
set_option maxRecDepth 20000 in
abbrev xx_X0_letDie_1 : scX := (Tx, invX, lnX0, [(38, 0, 6, cc_X6_isAlive_0), (84, 0, 0, cc_X0_costWhen_0)], cc_X0_letDie_1)
set_option maxRecDepth 20000 in
theorem hh_X0_letDie_1 : scH Tx invX cc_X0_letDie_1 := scCheck_ok (X := xx_X0_letDie_1) (nodes := []) (fuel := 4000) ⟨lqX0, fa_cons (⟨⟨1, _, pcv_X0_38, rfl⟩, hh_X6_isAlive_0⟩) (fa_cons (⟨⟨4, _, pcv_X0_84, rfl⟩, hh_X0_costWhen_0⟩) (fa_nil))⟩ dtX0_letDie (by decide +kernel)
abbrev cc_X0_putPiece_1 : scC := (qX0_putPiece, 3, [(0, 7)], [.inr (.inr (.inl [32])), .inr (.inr (.inl [47])), .inl (some 0, 0)], [], [(1, (0, 1), [], [], [])], [(47, 3, 1), (48, 0, 8)])
set_option maxRecDepth 20000 in
abbrev xx_X0_putPiece_1 : scX := (Tx, invX, lnX0, [(95, 0, 0, cc_X0_canBePut_0), (113, 0, 0, cc_X0_hoursFor_0)], cc_X0_putPiece_1)
set_option maxRecDepth 20000 in
theorem hh_X0_putPiece_1 : scH Tx invX cc_X0_putPiece_1 := scCheck_ok (X := xx_X0_putPiece_1) (nodes := []) (fuel := 4000) ⟨lqX0, fa_cons (⟨⟨2, _, pcv_X0_95, rfl⟩, hh_X0_canBePut_0⟩) (fa_cons (⟨⟨2, _, pcv_X0_113, rfl⟩, hh_X0_hoursFor_0⟩) (fa_nil))⟩ dtX0_putPiece (by decide +kernel)
abbrev cc_X0_passWeek_1 : scC := (qX0_passWeek, 0, [], [.inr (.inr (.inl [32])), .inr (.inr (.inl [47]))], [], [(1, (0, 1), [], [], [])], [(47, 2, 2), (48, 0, 8)])
set_option maxRecDepth 20000 in
abbrev xx_X0_passWeek_1 : scX := (Tx, invX, lnX0, [], cc_X0_passWeek_1)
set_option maxRecDepth 20000 in
theorem hh_X0_passWeek_1 : scH Tx invX cc_X0_passWeek_1 := scCheck_ok (X := xx_X0_passWeek_1) (nodes := [(35, ([(0, 8), ((-1), 12), ((-1), 12), (1, 200), ((-2147483648), 2147483647), (0, 8)], [some (.inr (.inr (.inl [32]))), some (.inr (.inr (.inl [47]))), some (.inl (some 0, 0))], [], [((47, 3), (some 1, 0)), ((3, 11), (some 2, 0)), ((47, 2), (some 3, 0)), ((48, 0), (some 4, 0)), ((3, 9), (some 5, 0))]), ([(-2)], 16))]) (fuel := 4000) ⟨lqX0, fa_nil⟩ dtX0_passWeek (by decide +kernel)
abbrev cc_X9_performStep_0 : scC := (qX9_performStep, 5, [(0, 7), (0, 7)], [.inr (.inr (.inl [32])), .inr (.inr (.inl [47])), .inl (some 0, 0), .inl (some 1, 0)], [], [(1, (0, 1), [], [], [])], [(26, 0, 24), (47, 1, 6), (48, 0, 8)])
set_option maxRecDepth 20000 in
abbrev xx_X9_performStep_0 : scX := (Tx, invX, lnX9, [(94, 0, 0, cc_X0_putPiece_1), (100, 0, 0, cc_X0_letDie_1), (103, 0, 0, cc_X0_passWeek_1)], cc_X9_performStep_0)
set_option maxRecDepth 20000 in
theorem hh_X9_performStep_0 : scH Tx invX cc_X9_performStep_0 := scCheck_ok (X := xx_X9_performStep_0) (nodes := []) (fuel := 4000) ⟨lqX9, fa_cons (⟨⟨2, _, pcv_X9_94, rfl⟩, hh_X0_putPiece_1⟩) (fa_cons (⟨⟨2, _, pcv_X9_100, rfl⟩, hh_X0_letDie_1⟩) (fa_cons (⟨⟨1, _, pcv_X9_103, rfl⟩, hh_X0_passWeek_1⟩) (fa_nil)))⟩ dtX9_performStep (by decide +kernel)
abbrev cc_X6_copyFrom_16 : scC := (qX6_copyFrom, 0, [], [.inr (.inr (.inl [50, 51, 52, 53, 54, 55, 56, 57, 58, 59, 60, 61, 62, 63, 64, 65])), .inr (.inr (.inl [47]))], [], [(0, (0, 0), [], [], [])], [(50, 1, 6), (51, 1, 6), (52, 1, 6), (53, 1, 6), (54, 1, 6), (55, 1, 6), (56, 1, 6), (57, 1, 6), (58, 1, 6), (59, 1, 6), (60, 1, 6), (61, 1, 6), (62, 1, 6), (63, 1, 6), (64, 1, 6), (65, 1, 6), (66, 0, 8), (67, 0, 8), (68, 0, 8), (69, 0, 8), (70, 0, 8), (71, 0, 8), (72, 0, 8), (73, 0, 8), (74, 0, 8), (75, 0, 8), (76, 0, 8), (77, 0, 8), (78, 0, 8), (79, 0, 8), (80, 0, 8), (81, 0, 8)])
set_option maxRecDepth 20000 in
abbrev xx_X6_copyFrom_16 : scX := (Tx, invX, lnX6, [], cc_X6_copyFrom_16)
set_option maxRecDepth 20000 in
theorem hh_X6_copyFrom_16 : scH Tx invX cc_X6_copyFrom_16 := scCheck_ok (X := xx_X6_copyFrom_16) (nodes := []) (fuel := 4000) ⟨lqX6, fa_nil⟩ dtX6_copyFrom (by decide +kernel)
abbrev cc_X5_keep_0 : scC := (qX5_keep, 1, [], [.inr (.inr (.inl [46]))], [], [(0, (0, 0), [], [], [])], [(46, 2, 1), (50, 1, 6), (51, 1, 6), (52, 1, 6), (53, 1, 6), (54, 1, 6), (55, 1, 6), (56, 1, 6), (57, 1, 6), (58, 1, 6), (59, 1, 6), (60, 1, 6), (61, 1, 6), (62, 1, 6), (63, 1, 6), (64, 1, 6), (65, 1, 6), (66, 0, 8), (67, 0, 8), (68, 0, 8), (69, 0, 8), (70, 0, 8), (71, 0, 8), (72, 0, 8), (73, 0, 8), (74, 0, 8), (75, 0, 8), (76, 0, 8), (77, 0, 8), (78, 0, 8), (79, 0, 8), (80, 0, 8), (81, 0, 8)])
set_option maxRecDepth 20000 in
abbrev xx_X5_keep_0 : scX := (Tx, invX, lnX5, [(26, 0, 6, cc_X6_copyFrom_16)], cc_X5_keep_0)
set_option maxRecDepth 20000 in
theorem hh_X5_keep_0 : scH Tx invX cc_X5_keep_0 := scCheck_ok (X := xx_X5_keep_0) (nodes := []) (fuel := 4000) ⟨lqX5, fa_cons (⟨⟨1, _, pcv_X5_26, rfl⟩, hh_X6_copyFrom_16⟩) (fa_nil)⟩ dtX5_keep (by decide +kernel)
end
-- P 11a
section
-- TEXTS: what they say, apart from any machine
/-- of a text: the byte at a place; -1 behind the end -/
abbrev tX : Type := Nat → Int
def tB (c : Int) : Bool := decide (c = 32)
def tD (c : Int) : Bool := decide (48 ≤ c) && decide (c ≤ 57)
def tW (c : Int) : Bool := decide (97 ≤ c) && decide (c ≤ 122)
def spF (P : Int → Bool) (tx : tX) : Nat → Nat → Nat
  | 0, p => p
  | f + 1, p => if P (tx p) then spF P tx f (p + 1) else p
/-- the first place from p on that isn't such a byte -/
def sp (P : Int → Bool) (tx : tX) (p : Nat) : Nat := spF P tx (700 - p) p
/-- a text of n bytes -/
def tOk (tx : tX) (n : Nat) : Prop := n ≤ 600 ∧ (∀ i, n ≤ i → tx i = -1) ∧ ∀ i, i < n → 0 ≤ tx i ∧ tx i ≤ 255
theorem sp_t {P : Int → Bool} {tx : tX} {p : Nat} (hp : p < 700) (h : P (tx p) = true) : sp P tx p = sp P tx (p + 1) := by
  unfold sp
  have e : 700 - p = (700 - (p + 1)) + 1 := by omega
  rw [e]
  simp only [spF, h, if_true]
theorem sp_f {P : Int → Bool} {tx : tX} {p : Nat} (h : P (tx p) = false) : sp P tx p = p := by
  unfold sp
  cases e : 700 - p with
  | zero => rfl
  | succ f => simp only [spF, h, Bool.false_eq_true, if_false]
theorem spF_ge {P : Int → Bool} {tx : tX} : ∀ (f p : Nat), p ≤ spF P tx f p
  | 0, p => Nat.le_refl _
  | f + 1, p => by
    simp only [spF]
    split
    · have := spF_ge (P := P) (tx := tx) f (p + 1)
      omega
    · exact Nat.le_refl _
theorem sp_ge {P : Int → Bool} {tx : tX} (p : Nat) : p ≤ sp P tx p := spF_ge _ _
theorem spF_le {P : Int → Bool} {tx : tX} {n : Nat} (hP : P (-1) = false) (ht : ∀ i, n ≤ i → tx i = -1) : ∀ (f p : Nat), p ≤ n → spF P tx f p ≤ n
  | 0, p, h => h
  | f + 1, p, h => by
    simp only [spF]
    split
    · rename_i h1
      by_cases e : p = n
      · subst e
        rw [ht p (Nat.le_refl _), hP] at h1
        cases h1
      · exact spF_le hP ht f (p + 1) (by omega)
    · exact h
theorem sp_le {P : Int → Bool} {tx : tX} {n p : Nat} (hP : P (-1) = false) (ht : tOk tx n) (h : p ≤ n) : sp P tx p ≤ n := spF_le hP ht.2.1 _ _ h
theorem spF_stop {P : Int → Bool} {tx : tX} {n : Nat} (hP : P (-1) = false) (ht : ∀ i, n ≤ i → tx i = -1) : ∀ (f p : Nat), n < f + p → P (tx (spF P tx f p)) = false
  | 0, p, h => by
    simp only [spF]
    rw [ht p (by omega)]
    exact hP
  | f + 1, p, h => by
    simp only [spF]
    split
    · exact spF_stop hP ht f (p + 1) (by omega)
    · rename_i h1
      simpa using h1
theorem sp_stop {P : Int → Bool} {tx : tX} {n p : Nat} (hP : P (-1) = false) (ht : tOk tx n) (h : p ≤ n) : P (tx (sp P tx p)) = false := spF_stop hP ht.2.1 _ _ (by have := ht.1; omega)
theorem sp_gt {P : Int → Bool} {tx : tX} {p : Nat} (hp : p < 700) (h : P (tx p) = true) : p < sp P tx p := by
  rw [sp_t hp h]
  exact sp_ge (p + 1)
theorem tB_1 : tB (-1) = false := by decide
theorem tD_1 : tD (-1) = false := by decide
theorem tW_1 : tW (-1) = false := by decide
def sk (tx : tX) (p : Nat) : Nat := sp tB tx p
/-- digits: their number -/
def nuF (tx : tX) : Nat → Nat → Nat → Nat
  | 0, _, v => v
  | f + 1, p, v => if tD (tx p) then nuF tx f (p + 1) (10 * v + (tx p - 48).toNat) else v
def nu (tx : tX) (p v : Nat) : Nat := nuF tx (700 - p) p v
theorem nu_t {tx : tX} {p v : Nat} (hp : p < 700) (h : tD (tx p) = true) : nu tx p v = nu tx (p + 1) (10 * v + (tx p - 48).toNat) := by
  unfold nu
  have e : 700 - p = (700 - (p + 1)) + 1 := by omega
  rw [e]
  simp only [nuF, h, if_true]
theorem nu_f {tx : tX} {p v : Nat} (h : tD (tx p) = false) : nu tx p v = v := by
  unfold nu
  cases e : 700 - p with
  | zero => rfl
  | succ f => simp only [nuF, h, Bool.false_eq_true, if_false]
/-- a fault (kind, place), or a value and the place behind it -/
abbrev tR (α : Type) : Type := (Nat × Nat) ⊕ (α × Nat)
def spNum (tx : tX) (lo hi : Int) (p : Nat) : tR Nat := if tD (tx (sk tx p)) then (if decide (lo ≤ (nu tx (sk tx p) 0 : Int)) && decide ((nu tx (sk tx p) 0 : Int) ≤ hi) then .inr (nu tx (sk tx p) 0, sp tD tx (sk tx p)) else .inl (2, sk tx p)) else .inl (1, sk tx p)
def spSign (tx : tX) (c : Int) (p : Nat) : tR Unit := if tx (sk tx p) = c then .inr ((), sk tx p + 1) else .inl (1, sk tx p)
/-- the word from p on -/
def wdF (tx : tX) : Nat → Nat → List Int
  | 0, _ => []
  | f + 1, p => if tW (tx p) then tx p :: wdF tx f (p + 1) else []
def wd (tx : tX) (p : Nat) : List Int := wdF tx (700 - p) p
theorem wd_t {tx : tX} {p : Nat} (hp : p < 700) (h : tW (tx p) = true) : wd tx p = tx p :: wd tx (p + 1) := by
  unfold wd
  have e : 700 - p = (700 - (p + 1)) + 1 := by omega
  rw [e]
  simp only [wdF, h, if_true]
theorem wd_f {tx : tX} {p : Nat} (h : tW (tx p) = false) : wd tx p = [] := by
  unfold wd
  cases e : 700 - p with
  | zero => rfl
  | succ f => simp only [wdF, h, Bool.false_eq_true, if_false]
theorem spNum_ok {tx : tX} {n p v q : Nat} {lo hi : Int} (ht : tOk tx n) (hp : p ≤ n) (h : spNum tx lo hi p = .inr (v, q)) : p < q ∧ q ≤ n ∧ lo ≤ v ∧ (v : Int) ≤ hi := by
  unfold spNum at h
  split at h
  · rename_i hd
    split at h
    · rename_i hr
      simp only [Bool.and_eq_true, decide_eq_true_eq] at hr
      cases h
      have h1 := sp_ge (P := tB) (tx := tx) p
      have h2 := sp_le tB_1 ht hp
      have h3 := sp_gt (P := tD) (tx := tx) (p := sk tx p) (by have := ht.1; unfold sk; omega) hd
      have h4 := sp_le (p := sk tx p) tD_1 ht h2
      unfold sk at h3 h4 ⊢
      exact ⟨by omega, h4, hr.1, hr.2⟩
    · cases h
  · cases h
theorem spNum_bad {tx : tX} {n p k a : Nat} {lo hi : Int} (ht : tOk tx n) (hp : p ≤ n) (h : spNum tx lo hi p = .inl (k, a)) : p ≤ a ∧ a ≤ n ∧ 1 ≤ k ∧ k ≤ 2 := by
  have h1 := sp_ge (P := tB) (tx := tx) p
  have h2 := sp_le tB_1 ht hp
  unfold spNum at h
  split at h
  · split at h
    · cases h
    · cases h
      unfold sk
      omega
  · cases h
    unfold sk
    omega
theorem spSign_ok {tx : tX} {n p q : Nat} {c : Int} {u : Unit} (ht : tOk tx n) (hp : p ≤ n) (hc : 0 ≤ c) (h : spSign tx c p = .inr (u, q)) : p < q ∧ q ≤ n := by
  have h1 := sp_ge (P := tB) (tx := tx) p
  have h2 := sp_le tB_1 ht hp
  unfold spSign at h
  split at h
  · rename_i hs
    cases h
    unfold sk at hs ⊢
    by_cases e : sp tB tx p = n
    · rw [ht.2.1 _ (by omega)] at hs
      omega
    · omega
  · cases h
theorem spSign_bad {tx : tX} {n p k a : Nat} {c : Int} (ht : tOk tx n) (hp : p ≤ n) (h : spSign tx c p = .inl (k, a)) : p ≤ a ∧ a ≤ n ∧ k = 1 := by
  have h1 := sp_ge (P := tB) (tx := tx) p
  have h2 := sp_le tB_1 ht hp
  unfold spSign at h
  split at h
  · cases h
  · cases h
    unfold sk
    omega
theorem wdF_len {tx : tX} : ∀ (f p : Nat), (wdF tx f p).length = spF tW tx f p - p
  | 0, p => by simp [wdF, spF]
  | f + 1, p => by
    simp only [wdF, spF]
    split
    · have := spF_ge (P := tW) (tx := tx) f (p + 1)
      have ih := wdF_len (tx := tx) f (p + 1)
      simp only [List.length_cons, ih]
      omega
    · simp
theorem wd_len {tx : tX} {p : Nat} : (wd tx p).length = sp tW tx p - p := wdF_len _ _
theorem wdF_let {tx : tX} : ∀ (f p : Nat), ∀ c ∈ wdF tx f p, tW c = true
  | 0, p, c, h => by cases h
  | f + 1, p, c, h => by
    simp only [wdF] at h
    split at h
    · rename_i hw
      rcases List.mem_cons.mp h with e | h
      · rw [e]; exact hw
      · exact wdF_let f (p + 1) c h
    · cases h
theorem wd_let {tx : tX} {p : Nat} : ∀ c ∈ wd tx p, tW c = true := wdF_let _ _
/-- letters as a number by 27, of five at most -/
def w27 : Int → List Int → Int
  | v, [] => v
  | v, c :: cs => w27 (27 * v + (c - 96)) cs
theorem w27_app (cs : List Int) (c : Int) : ∀ v, w27 v (cs ++ [c]) = 27 * w27 v cs + (c - 96) := by
  induction cs with
  | nil => intro v; rfl
  | cons x xs ih => intro v; exact ih _
theorem w27_nn : ∀ (cs : List Int) (v : Int), 0 ≤ v → (∀ c ∈ cs, tW c = true) → 0 ≤ w27 v cs
  | [], v, h, _ => h
  | c :: cs, v, h, hc => by
    have h1 := hc c List.mem_cons_self
    simp only [tW, Bool.and_eq_true, decide_eq_true_eq] at h1
    exact w27_nn cs _ (by omega) (fun x hx => hc x (List.mem_cons_of_mem _ hx))
theorem w27_inj : ∀ (n : Nat) (as bs : List Int), as.length + bs.length ≤ n → (∀ c ∈ as, tW c = true) → (∀ c ∈ bs, tW c = true) → w27 0 as = w27 0 bs → as = bs := by
  intro n
  induction n with
  | zero =>
    intro as bs h _ _ _
    have h1 : as.length = 0 := by omega
    have h2 : bs.length = 0 := by omega
    rw [List.length_eq_zero_iff.mp h1, List.length_eq_zero_iff.mp h2]
  | succ n ih =>
    intro as bs h ha hb e
    rcases List.eq_nil_or_concat as with h1 | ⟨xs, x, h1⟩
    · subst h1
      rcases List.eq_nil_or_concat bs with h2 | ⟨ys, y, h2⟩
      · exact h2.symm
      · subst h2
        rw [List.concat_eq_append, w27_app] at e
        have hy := hb y (by simp)
        simp only [tW, Bool.and_eq_true, decide_eq_true_eq] at hy
        have := w27_nn ys 0 (by omega) (fun c hc => hb c (by simp [hc]))
        have e0 : w27 0 [] = 0 := rfl
        omega
    · subst h1
      rcases List.eq_nil_or_concat bs with h2 | ⟨ys, y, h2⟩
      · subst h2
        rw [List.concat_eq_append, w27_app] at e
        have hx := ha x (by simp)
        simp only [tW, Bool.and_eq_true, decide_eq_true_eq] at hx
        have := w27_nn xs 0 (by omega) (fun c hc => ha c (by simp [hc]))
        have e0 : w27 0 [] = 0 := rfl
        omega
      · subst h2
        rw [List.concat_eq_append, w27_app, List.concat_eq_append, w27_app] at e
        have hx := ha x (by simp)
        have hy := hb y (by simp)
        simp only [tW, Bool.and_eq_true, decide_eq_true_eq] at hx hy
        have e1 : x = y := by omega
        have e2 : w27 0 xs = w27 0 ys := by omega
        have := ih xs ys (by simp at h; omega) (fun c hc => ha c (by simp [hc])) (fun c hc => hb c (by simp [hc])) e2
        rw [this, e1]
end
-- P 11b
section
-- THE REFERENCE READS TEXTS
theorem fmI_fmI (M : fmM) (k j : Nat) (a b : Int32) : fmI (fmI M k j a) k j b = fmI M k j b := by
  unfold fmI
  congr 1
  funext k'
  by_cases h : k' = k
  · subst h
    simp only [if_true]
    funext j'
    simp only [upd]
    split <;> rfl
  · simp only [h, if_false]
theorem fmI_id (M : fmM) (k j : Nat) : fmI M k j (M.1 k j) = M := by
  unfold fmI
  have : (fun k' => if k' = k then upd (M.1 k) j (M.1 k j) else M.1 k') = M.1 := by
    funext k'
    by_cases h : k' = k
    · subst h
      simp only [if_true]
      funext j'
      simp only [upd]
      split
      · rename_i e; rw [e]
      · rfl
    · simp only [h, if_false]
  rw [this]
/-- the reference stands at place p of a text of n bytes -/
def rS (M : fmM) (tx : tX) (n p : Nat) : Prop := (M.1 0 2).toInt = n ∧ (M.1 0 4).toInt = p ∧ p ≤ n ∧ tOk tx n ∧ ∀ i, i < n → (M.1 1 i).toInt = tx i
theorem tB_of {c : Int} {v : Int32} (h : v.toInt = c) (e : v = 32) : tB c = true := by
  subst e
  rw [← h]
  decide
theorem tB_no {c : Int} {v : Int32} (h : v.toInt = c) (e : ¬ v = 32) : tB c = false := by
  unfold tB
  rw [decide_eq_false_iff_not]
  intro h2
  apply e
  apply i32_ext
  rw [h, h2]
  decide
theorem tB_eq {c : Int} (h : tB c = true) : c = 32 := by simpa [tB] using h
theorem tD_t {c : Int32} (h1 : ¬ c < 48) (h2 : ¬ 57 < c) : tD c.toInt = true := by
  rw [sc_lt] at h1 h2
  have e1 : (48 : Int32).toInt = 48 := by decide
  have e2 : (57 : Int32).toInt = 57 := by decide
  simp only [tD, Bool.and_eq_true, decide_eq_true_eq]
  omega
theorem tD_f {c : Int32} (h : c < 48 ∨ 57 < c) : tD c.toInt = false := by
  rw [sc_lt, sc_lt] at h
  have e1 : (48 : Int32).toInt = 48 := by decide
  have e2 : (57 : Int32).toInt = 57 := by decide
  simp only [tD, Bool.and_eq_false_iff, decide_eq_false_iff_not]
  omega
theorem tW_t {c : Int32} (h1 : ¬ c < 97) (h2 : ¬ 122 < c) : tW c.toInt = true := by
  rw [sc_lt] at h1 h2
  have e1 : (97 : Int32).toInt = 97 := by decide
  have e2 : (122 : Int32).toInt = 122 := by decide
  simp only [tW, Bool.and_eq_true, decide_eq_true_eq]
  omega
theorem tW_f {c : Int32} (h : c < 97 ∨ 122 < c) : tW c.toInt = false := by
  rw [sc_lt, sc_lt] at h
  have e1 : (97 : Int32).toInt = 97 := by decide
  have e2 : (122 : Int32).toInt = 122 := by decide
  simp only [tW, Bool.and_eq_false_iff, decide_eq_false_iff_not]
  omega
theorem i32_p1 {x : Int32} {p : Nat} (h : x.toInt = p) (hp : p < 100000) : (x + 1).toInt = ((p + 1 : Nat) : Int) := by
  have e1 : (1 : Int32).toInt = 1 := by decide
  rw [sc_add (by omega) (by omega)]
  omega
section RS
variable {M : fmM} {tx : tX} {n p : Nat}
theorem rS.lt (h : rS M tx n p) (hc : 0 ≤ tx p) : p < n := by
  by_cases e : p < n
  · exact e
  · have := h.2.2.2.1.2.1 p (by omega)
    omega
theorem rS.set {q : Nat} {x : Int32} (h : rS M tx n p) (hx : x.toInt = q) (hq : q ≤ n) : rS (fmI M 0 4 x) tx n q := ⟨h.1, hx, hq, h.2.2.2.1, h.2.2.2.2⟩
theorem rS.step (h : rS M tx n p) (hp : p < n) : rS (fmI M 0 4 (M.1 0 4 + 1)) tx n (p + 1) := h.set (i32_p1 h.2.1 (by have := h.2.2.2.1.1; omega)) hp
/-- what isn't the text's own may change -/
theorem rS.of {M' : fmM} (h : rS M tx n p) (h1 : M'.1 0 2 = M.1 0 2) (h2 : M'.1 0 4 = M.1 0 4) (h3 : M'.1 1 = M.1 1) : rS M' tx n p := by
  unfold rS
  rw [h1, h2, h3]
  exact h
theorem rS.inb {k : Int32} {q : Nat} (h : rS M tx n p) (hk : k.toInt = q) (hc : k < M.1 0 2) : vp_in k 600 := by
  rw [sc_lt] at hc
  have h1 := h.1
  have h2 := h.2.2.2.1.1
  exact vp_in_iff.mpr ⟨by omega, by omega⟩
theorem rS.bend {k : Int32} {q : Nat} (h : rS M tx n p) (hk : k.toInt = q) (hc : ¬ k < M.1 0 2) : (-1 : Int32).toInt = tx q := by
  rw [sc_lt] at hc
  have h1 := h.1
  rw [h.2.2.2.1.2.1 q (by omega)]
  decide
theorem rS.bin {k : Int32} {q : Nat} (h : rS M tx n p) (hk : k.toInt = q) (hc : k < M.1 0 2) : (M.1 1 k.toNatClampNeg).toInt = tx q := by
  rw [sc_lt] at hc
  have h1 := h.1
  have e : k.toNatClampNeg = q := by
    show k.toInt.toNat = q
    omega
  rw [e]
  exact h.2.2.2.2 q (by omega)
end RS
theorem rS.bl {M : fmM} {tx : tX} {n p : Nat} {x : Int32} (h : rS M tx n p) (hx : x.toInt = sk tx p) : rS (fmI M 0 4 x) tx n (sk tx p) := h.set hx (sp_le tB_1 h.2.2.2.1 h.2.2.1)
theorem tD_in {c : Int} (h : tD c = true) : 48 ≤ c ∧ c ≤ 57 := by simpa [tD] using h
theorem tW_in {c : Int} (h : tW c = true) : 97 ≤ c ∧ c ≤ 122 := by simpa [tW] using h
theorem nm_ar {v c : Int32} {w : Nat} {t : Int} (hv : v.toInt = min (w : Int) 100000) (hc : c.toInt = t) (hd : 48 ≤ t ∧ t ≤ 57) : (10 * v + c - 48).toInt = 10 * v.toInt + (t - 48) := by
  have e1 : (10 : Int32).toInt = 10 := by decide
  have e2 : (48 : Int32).toInt = 48 := by decide
  have a1 : (10 * v).toInt = 10 * v.toInt := by rw [sc_mul (by rw [e1]; omega) (by rw [e1]; omega), e1]
  have a2 : (10 * v + c).toInt = 10 * v.toInt + t := by rw [sc_add (by rw [a1]; omega) (by rw [a1]; omega), a1, hc]
  rw [sc_sub (by rw [a2, e2]; omega) (by rw [a2, e2]; omega), a2, e2]
  omega
theorem nm_le {x v : Int32} {w : Nat} {t : Int} (e : x.toInt = 10 * v.toInt + (t - 48)) (h : x ≤ 100000) (hv : v.toInt = min (w : Int) 100000 := by assumption) (hd : 48 ≤ t ∧ t ≤ 57 := by assumption) : x.toInt = min ((10 * w + (t - 48).toNat : Nat) : Int) 100000 := by
  rw [sc_le] at h
  have e1 : (100000 : Int32).toInt = 100000 := by decide
  omega
theorem nm_gt {x v : Int32} {w : Nat} {t : Int} (e : x.toInt = 10 * v.toInt + (t - 48)) (h : ¬ x ≤ 100000) (hv : v.toInt = min (w : Int) 100000 := by assumption) (hd : 48 ≤ t ∧ t ≤ 57 := by assumption) : (100000 : Int32).toInt = min ((10 * w + (t - 48).toNat : Nat) : Int) 100000 := by
  rw [sc_le] at h
  have e1 : (100000 : Int32).toInt = 100000 := by decide
  omega
theorem spNum_y {tx : tX} {p : Nat} {lo hi : Int} (h : tD (tx (sk tx p)) = true) (h1 : lo ≤ (nu tx (sk tx p) 0 : Int)) (h2 : (nu tx (sk tx p) 0 : Int) ≤ hi) : spNum tx lo hi p = .inr (nu tx (sk tx p) 0, sp tD tx (sk tx p)) := by
  unfold spNum
  rw [if_pos h, if_pos (by simp [h1, h2])]
theorem spNum_n {tx : tX} {p : Nat} {lo hi : Int} (h : tD (tx (sk tx p)) = true) (h1 : ¬ (lo ≤ (nu tx (sk tx p) 0 : Int) ∧ (nu tx (sk tx p) 0 : Int) ≤ hi)) : spNum tx lo hi p = .inl (2, sk tx p) := by
  unfold spNum
  rw [if_pos h, if_neg (by simpa using h1)]
theorem spNum_0 {tx : tX} {p : Nat} {lo hi : Int} (h : tD (tx (sk tx p)) = false) : spNum tx lo hi p = .inl (1, sk tx p) := by
  unfold spNum
  rw [if_neg (by rw [h]; exact Bool.false_ne_true)]
theorem fmI_com {M : fmM} {k j j' : Nat} {a b : Int32} (h : j ≠ j') : fmI (fmI M k j a) k j' b = fmI (fmI M k j' b) k j a := by
  unfold fmI
  congr 1
  funext k'
  by_cases e : k' = k
  · subst e
    simp only [if_true]
    funext i
    simp only [upd]
    by_cases e1 : i = j
    · subst e1
      simp [h]
    · simp [e1]
  · simp only [e, if_false]
theorem fmI_com3 {M : fmM} {x y k a : Int32} : fmI (fmI (fmI M 0 4 x) 0 5 k) 0 6 a = fmI (fmI (fmI (fmI M 0 4 y) 0 5 k) 0 6 a) 0 4 x := by
  rw [fmI_com (j := 6) (j' := 4) (by decide), fmI_com (j := 5) (j' := 4) (by decide), fmI_fmI]
theorem spSign_y {tx : tX} {p : Nat} {v c : Int32} (hv : v.toInt = tx (sk tx p)) (h : v = c) : spSign tx c.toInt p = .inr ((), sk tx p + 1) := by
  unfold spSign
  rw [if_pos (by rw [← hv, h])]
theorem spSign_n {tx : tX} {p : Nat} {v c : Int32} (hv : v.toInt = tx (sk tx p)) (h : ¬ v = c) : spSign tx c.toInt p = .inl (1, sk tx p) := by
  unfold spSign
  rw [if_neg (fun e => h (i32_ext (by rw [hv, e])))]
def fvE (a b c d e : Int32) : Int32 :=
  let v := 27 * a + b
  let v := if c = 0 then v else 27 * v + c
  let v := if d = 0 then v else 27 * v + d
  if e = 0 then v else 27 * v + e
theorem w27_bd : ∀ (cs : List Int) (v : Int), (∀ c ∈ cs, tW c = true) → w27 v cs + 1 ≤ (v + 1) * 27 ^ cs.length
  | [], v, _ => by simp [w27]
  | c :: cs, v, h => by
    have h1 := tW_in (h c List.mem_cons_self)
    have ih := w27_bd cs (27 * v + (c - 96)) (fun x hx => h x (List.mem_cons_of_mem _ hx))
    have h3 : (27 * v + (c - 96) + 1) * 27 ^ cs.length ≤ (27 * (v + 1)) * 27 ^ cs.length := Int.mul_le_mul_of_nonneg_right (by omega) (Int.le_of_lt (Int.pow_pos (by omega)))
    have h4 : (27 * (v + 1)) * 27 ^ cs.length = (v + 1) * 27 ^ (c :: cs).length := by
      rw [List.length_cons, Int.pow_succ, Int.mul_comm 27 (v + 1), Int.mul_assoc, Int.mul_comm 27 (27 ^ cs.length)]
    show w27 (27 * v + (c - 96)) cs + 1 ≤ _
    omega
theorem rS.lt2 {M : fmM} {tx : tX} {n p q : Nat} (h : rS M tx n p) (hq : q ≤ n) (hc : 0 ≤ tx q) : q < n := by
  by_cases e : q < n
  · exact e
  · have := h.2.2.2.1.2.1 q (by omega)
    omega
theorem wh_k {M : fmM} {tx : tX} {n a i : Nat} {k : Int32} (hS : rS M tx n a) (hk : k.toInt = i) (hle : a + i ≤ n) : (M.1 0 4 + k).toInt = ((a + i : Nat) : Int) := by
  have h1 := hS.2.1
  have h2 := hS.2.2.2.1.1
  rw [sc_add (by omega) (by omega)]
  omega
theorem wh_k1 {M : fmM} {tx : tX} {n a : Nat} {k : Int32} {pre : List Int} {c : Int} (hk : k.toInt = pre.length) (hle : a + pre.length ≤ n) (hS : rS M tx n a) : (k + 1).toInt = ((pre ++ [c]).length : Int) := by
  have h2 := hS.2.2.2.1.1
  rw [i32_p1 hk (by omega)]
  simp
theorem wh_cons (pre : List Int) (c : Int) (r : List Int) : pre ++ c :: r = (pre ++ [c]) ++ r := by simp
theorem wh_lt {k v c : Int32} {pre : List Int} {t : Int} (hk : k.toInt = pre.length) (hc : ¬ 5 ≤ k) (hv : v.toInt = w27 0 (pre.take 5)) (hx : c.toInt = t) (ht : tW t = true) (hpre : ∀ c ∈ pre, tW c = true) : (27 * v + c - 97 + 1).toInt = w27 0 ((pre ++ [t]).take 5) := by
  rw [sc_le] at hc
  have e5 : (5 : Int32).toInt = 5 := by decide
  have hl : pre.length < 5 := by omega
  have e1 : pre.take 5 = pre := List.take_of_length_le (by omega)
  have e2 : (pre ++ [t]).take 5 = pre ++ [t] := List.take_of_length_le (by simp; omega)
  rw [e1] at hv
  rw [e2, w27_app]
  have b1 := w27_nn pre 0 (by omega) hpre
  have b2 := w27_bd pre 0 hpre
  have b4 := tW_in ht
  have b5 : w27 0 pre ≤ 531441 := by
    have p0 : ((0 : Int) + 1) * 27 ^ 0 = 1 := by decide
    have p1 : ((0 : Int) + 1) * 27 ^ 1 = 27 := by decide
    have p2 : ((0 : Int) + 1) * 27 ^ 2 = 729 := by decide
    have p3 : ((0 : Int) + 1) * 27 ^ 3 = 19683 := by decide
    have p4 : ((0 : Int) + 1) * 27 ^ 4 = 531441 := by decide
    rcases (show pre.length = 0 ∨ pre.length = 1 ∨ pre.length = 2 ∨ pre.length = 3 ∨ pre.length = 4 by omega) with h | h | h | h | h <;> rw [h] at b2 <;> omega
  have c1 : (27 : Int32).toInt = 27 := by decide
  have c2 : (97 : Int32).toInt = 97 := by decide
  have c3 : (1 : Int32).toInt = 1 := by decide
  have a1 : (27 * v).toInt = 27 * v.toInt := by rw [sc_mul (by rw [c1]; omega) (by rw [c1]; omega), c1]
  have a2 : (27 * v + c).toInt = 27 * v.toInt + t := by rw [sc_add (by rw [a1]; omega) (by rw [a1]; omega), a1, hx]
  have a3 : (27 * v + c - 97).toInt = 27 * v.toInt + t - 97 := by rw [sc_sub (by rw [a2, c2]; omega) (by rw [a2, c2]; omega), a2, c2]
  rw [sc_add (by rw [a3, c3]; omega) (by rw [a3, c3]; omega), a3, c3]
  omega
theorem wh_ge {k v : Int32} {pre : List Int} {t : Int} (hk : k.toInt = pre.length) (hc : 5 ≤ k) (hv : v.toInt = w27 0 (pre.take 5)) : v.toInt = w27 0 ((pre ++ [t]).take 5) := by
  rw [sc_le] at hc
  have e5 : (5 : Int32).toInt = 5 := by decide
  rw [hv, List.take_append_of_le_length (by omega)]
theorem wh_5 {k v : Int32} {pre : List Int} (hk : k.toInt = pre.length) (hc : k ≤ 5) (hv : v.toInt = w27 0 (pre.take 5)) : v.toInt = (if pre.length ≤ 5 then w27 0 pre else -1) := by
  rw [sc_le] at hc
  have e5 : (5 : Int32).toInt = 5 := by decide
  rw [if_pos (by omega), hv, List.take_of_length_le (by omega)]
theorem wh_6 {k : Int32} {pre : List Int} (hk : k.toInt = pre.length) (hc : ¬ k ≤ 5) : (-1 : Int32).toInt = (if pre.length ≤ 5 then w27 0 pre else -1) := by
  rw [sc_le] at hc
  have e5 : (5 : Int32).toInt = 5 := by decide
  rw [if_neg (by omega)]
  decide
theorem iw_y {v r : Int32} {w : List Int} (hw : v.toInt = w27 0 w ∧ w.length ≤ 5 ∧ ∀ c ∈ w, tW c = true) {tx : tX} {p : Nat} (hr : r.toInt = (if (wd tx p).length ≤ 5 then w27 0 (wd tx p) else -1)) (h : r = v) : wd tx p = w := by
  have h0 := w27_nn w 0 (by omega) hw.2.2
  rw [h, hw.1] at hr
  split at hr
  · exact (w27_inj _ w (wd tx p) (Nat.le_refl _) hw.2.2 wd_let hr).symm
  · omega
theorem iw_n {v r : Int32} {w : List Int} (hw : v.toInt = w27 0 w ∧ w.length ≤ 5 ∧ ∀ c ∈ w, tW c = true) {tx : tX} {p : Nat} (hr : r.toInt = (if (wd tx p).length ≤ 5 then w27 0 (wd tx p) else -1)) (h : ¬ r = v) : ¬ wd tx p = w := by
  intro e
  apply h
  apply i32_ext
  rw [hr, e, if_pos hw.2.1, hw.1]
set_option maxRecDepth 20000 in
theorem c_byteAt {M : fmM} {Q : fmR → fmM → Prop} {tx : tX} {n p : Nat} {k : Int32} (hS : rS M tx n p) (q : Nat) (hk : k.toInt = q) (hq : ∀ v : Int32, v.toInt = tx q → Q (.inl (some (.int v))) M) : pvGood Tm 0 qX11_byteAt [.ref 0, .int k] M Q := by
  refine pvGood_of (Nat.le_of_ble_eq_true rfl) ?_
  show pvEv Tm 0 qX11_byteAt 0 [some (.ref 0), some (.int k)] [] M Q
  refine pv_iloadn (pc := 0) (n := 1) 1 rfl rfl (fm_dec dtX11_byteAt 0 rfl) ?_
  refine pv_aloadn (pc := 1) (n := 0) 0 rfl rfl (fm_dec dtX11_byteAt 1 rfl) ?_
  refine pv_getI (k := 0) (j := 2) (ci := 11) (pc := 2) pfl_X11_107 (by decide) rfl (by decide) (fm_dec dtX11_byteAt 2 rfl) ?_
  refine pv_icmp_lt (pc := 5) 12 (by decide) (fm_dec dtX11_byteAt 3 rfl) (fun hc5 => ?_) (fun hc5 => ?_)
  · refine pv_aloadn (pc := 12) (n := 0) 0 rfl rfl (fm_dec dtX11_byteAt 6 rfl) ?_
    refine pv_getR (k := 0) (j := 9) (ci := 11) (pc := 13) 1 rfl (by decide) pfl_X11_13 (by decide) rfl (by decide) (fm_dec dtX11_byteAt 7 rfl) ?_
    refine pv_iloadn (pc := 16) (n := 1) 1 rfl rfl (fm_dec dtX11_byteAt 8 rfl) ?_
    refine pv_iald (k := 1) (n := 600) (pc := 17) (by decide) rfl rfl (rS.inb hS hk hc5) (fm_dec dtX11_byteAt 9 rfl) ?_
    exact pv_ireturn (pc := 18) rfl (fm_dec dtX11_byteAt 10 rfl) (hq _ (by first | exact rS.bend hS hk hc5 | exact rS.bin hS hk hc5))
  · refine pv_iconst (pc := 8) (v := (-1)) (by decide) (fm_dec dtX11_byteAt 4 rfl) ?_
    refine pv_goto (pc := 9) 18 (by decide) (fm_dec dtX11_byteAt 5 rfl) ?_
    exact pv_ireturn (pc := 18) rfl (fm_dec dtX11_byteAt 10 rfl) (hq _ (by first | exact rS.bend hS hk hc5 | exact rS.bin hS hk hc5))
set_option maxRecDepth 20000 in
theorem c_isDigit {M : fmM} {Q : fmR → fmM → Prop} {c : Int32} (ht : tD c.toInt = true → Q (.inl (some (.int 1))) M) (hf : tD c.toInt = false → Q (.inl (some (.int 0))) M) : pvGood Tm 0 qX11_isDigit [.int c] M Q := by
  refine pvGood_of (Nat.le_of_ble_eq_true rfl) ?_
  show pvEv Tm 0 qX11_isDigit 0 [some (.int c)] [] M Q
  refine pv_iloadn (pc := 0) (n := 0) 0 rfl rfl (fm_dec dtX11_isDigit 0 rfl) ?_
  refine pv_bipush (pc := 1) (v := 48) (by decide) (fm_dec dtX11_isDigit 1 rfl) ?_
  refine pv_icmp_lt (pc := 3) 16 (by decide) (fm_dec dtX11_isDigit 2 rfl) (fun hc3 => ?_) (fun hc3 => ?_)
  · refine pv_iconst (pc := 16) (v := 0) (by decide) (fm_dec dtX11_isDigit 8 rfl) ?_
    exact pv_zreturn (pc := 17) rfl (by first | exact Or.inr rfl | exact Or.inl rfl) (fm_dec dtX11_isDigit 9 rfl) (by first | exact ht (tD_t hc3 hc9) | exact hf (tD_f (Or.inl hc3)) | exact hf (tD_f (Or.inr hc9)))
  · refine pv_iloadn (pc := 6) (n := 0) 0 rfl rfl (fm_dec dtX11_isDigit 3 rfl) ?_
    refine pv_bipush (pc := 7) (v := 57) (by decide) (fm_dec dtX11_isDigit 4 rfl) ?_
    refine pv_icmp_gt (pc := 9) 16 (by decide) (fm_dec dtX11_isDigit 5 rfl) (fun hc9 => ?_) (fun hc9 => ?_)
    · refine pv_iconst (pc := 16) (v := 0) (by decide) (fm_dec dtX11_isDigit 8 rfl) ?_
      exact pv_zreturn (pc := 17) rfl (by first | exact Or.inr rfl | exact Or.inl rfl) (fm_dec dtX11_isDigit 9 rfl) (by first | exact ht (tD_t hc3 hc9) | exact hf (tD_f (Or.inl hc3)) | exact hf (tD_f (Or.inr hc9)))
    · refine pv_iconst (pc := 12) (v := 1) (by decide) (fm_dec dtX11_isDigit 6 rfl) ?_
      refine pv_goto (pc := 13) 17 (by decide) (fm_dec dtX11_isDigit 7 rfl) ?_
      exact pv_zreturn (pc := 17) rfl (by first | exact Or.inr rfl | exact Or.inl rfl) (fm_dec dtX11_isDigit 9 rfl) (by first | exact ht (tD_t hc3 hc9) | exact hf (tD_f (Or.inl hc3)) | exact hf (tD_f (Or.inr hc9)))
set_option maxRecDepth 20000 in
theorem c_isSmall {M : fmM} {Q : fmR → fmM → Prop} {c : Int32} (ht : tW c.toInt = true → Q (.inl (some (.int 1))) M) (hf : tW c.toInt = false → Q (.inl (some (.int 0))) M) : pvGood Tm 0 qX11_isSmall [.int c] M Q := by
  refine pvGood_of (Nat.le_of_ble_eq_true rfl) ?_
  show pvEv Tm 0 qX11_isSmall 0 [some (.int c)] [] M Q
  refine pv_iloadn (pc := 0) (n := 0) 0 rfl rfl (fm_dec dtX11_isSmall 0 rfl) ?_
  refine pv_bipush (pc := 1) (v := 97) (by decide) (fm_dec dtX11_isSmall 1 rfl) ?_
  refine pv_icmp_lt (pc := 3) 16 (by decide) (fm_dec dtX11_isSmall 2 rfl) (fun hc3 => ?_) (fun hc3 => ?_)
  · refine pv_iconst (pc := 16) (v := 0) (by decide) (fm_dec dtX11_isSmall 8 rfl) ?_
    exact pv_zreturn (pc := 17) rfl (by first | exact Or.inr rfl | exact Or.inl rfl) (fm_dec dtX11_isSmall 9 rfl) (by first | exact ht (tW_t hc3 hc9) | exact hf (tW_f (Or.inl hc3)) | exact hf (tW_f (Or.inr hc9)))
  · refine pv_iloadn (pc := 6) (n := 0) 0 rfl rfl (fm_dec dtX11_isSmall 3 rfl) ?_
    refine pv_bipush (pc := 7) (v := 122) (by decide) (fm_dec dtX11_isSmall 4 rfl) ?_
    refine pv_icmp_gt (pc := 9) 16 (by decide) (fm_dec dtX11_isSmall 5 rfl) (fun hc9 => ?_) (fun hc9 => ?_)
    · refine pv_iconst (pc := 16) (v := 0) (by decide) (fm_dec dtX11_isSmall 8 rfl) ?_
      exact pv_zreturn (pc := 17) rfl (by first | exact Or.inr rfl | exact Or.inl rfl) (fm_dec dtX11_isSmall 9 rfl) (by first | exact ht (tW_t hc3 hc9) | exact hf (tW_f (Or.inl hc3)) | exact hf (tW_f (Or.inr hc9)))
    · refine pv_iconst (pc := 12) (v := 1) (by decide) (fm_dec dtX11_isSmall 6 rfl) ?_
      refine pv_goto (pc := 13) 17 (by decide) (fm_dec dtX11_isSmall 7 rfl) ?_
      exact pv_zreturn (pc := 17) rfl (by first | exact Or.inr rfl | exact Or.inl rfl) (fm_dec dtX11_isSmall 9 rfl) (by first | exact ht (tW_t hc3 hc9) | exact hf (tW_f (Or.inl hc3)) | exact hf (tW_f (Or.inr hc9)))
set_option maxRecDepth 20000 in
theorem rb_loop {Q : fmR → fmM → Prop} {tx : tX} {n : Nat} : ∀ (m : Nat) (M : fmM) (p : Nat), rS M tx n p → n - p = m → (∀ x : Int32, x.toInt = sk tx p → Q (.inl none) (fmI M 0 4 x)) → pvEv Tm 1 qX11_blanks 0 [some (.ref 0)] [] M Q := by
  intro m
  induction m using Nat.strongRecOn with
  | _ m ih =>
    intro M p hS hm hq
    refine pv_aloadn (pc := 0) (n := 0) 0 rfl rfl (fm_dec dtX11_blanks 0 rfl) ?_
    refine pv_aloadn (pc := 1) (n := 0) 0 rfl rfl (fm_dec dtX11_blanks 1 rfl) ?_
    refine pv_getI (k := 0) (j := 4) (ci := 11) (pc := 2) pfl_X11_110 (by decide) rfl (by decide) (fm_dec dtX11_blanks 2 rfl) ?_
    refine pv_invV1 (k := 0) (d' := 0) (pc := 5) pcv_X11_113 (by decide) rfl (Nat.le_of_ble_eq_true rfl) (by decide) (fm_dec dtX11_blanks 3 rfl) ?_
    refine c_byteAt hS p hS.2.1 (fun v5 hv5 => ?_)
    refine pv_then1 ?_
    refine pv_bipush (pc := 8) (v := 32) (by decide) (fm_dec dtX11_blanks 4 rfl) ?_
    refine pv_icmp_ne (pc := 10) 26 (by decide) (fm_dec dtX11_blanks 5 rfl) (fun hc10 => ?_) (fun hc10 => ?_)
    · exact pv_return (pc := 26) rfl (fm_dec dtX11_blanks 13 rfl) (by have h9 := hq (M.1 0 4) (by rw [hS.2.1]; unfold sk; rw [sp_f (tB_no hv5 hc10)]); rw [fmI_id] at h9; exact h9)
    · refine pv_aloadn (pc := 13) (n := 0) 0 rfl rfl (fm_dec dtX11_blanks 6 rfl) ?_
      refine pv_dup (pc := 14) rfl (fm_dec dtX11_blanks 7 rfl) ?_
      refine pv_getI (k := 0) (j := 4) (ci := 11) (pc := 15) pfl_X11_110 (by decide) rfl (by decide) (fm_dec dtX11_blanks 8 rfl) ?_
      refine pv_iconst (pc := 18) (v := 1) (by decide) (fm_dec dtX11_blanks 9 rfl) ?_
      refine pv_iadd (pc := 19) (fm_dec dtX11_blanks 10 rfl) ?_
      refine pv_putI (k := 0) (j := 4) (ci := 11) (pc := 20) pfl_X11_110 (by decide) rfl (by decide) (fm_dec dtX11_blanks 11 rfl) ?_
      refine pv_goto (pc := 23) 0 (by decide) (fm_dec dtX11_blanks 12 rfl) ?_
      have ht : tB (tx p) = true := tB_of hv5 hc10
      have hlt := hS.lt (by have := tB_eq ht; omega)
      refine ih (n - (p + 1)) (by omega) _ (p + 1) (hS.step hlt) rfl (fun x hx => ?_)
      rw [fmI_fmI]
      exact hq x (by unfold sk at hx ⊢; rw [sp_t (by have := hS.2.2.2.1.1; omega) ht]; exact hx)
theorem c_blanks {M : fmM} {Q : fmR → fmM → Prop} {tx : tX} {n p : Nat} (hS : rS M tx n p) (hq : ∀ x : Int32, x.toInt = sk tx p → Q (.inl none) (fmI M 0 4 x)) : pvGood Tm 1 qX11_blanks [.ref 0] M Q := pvGood_of (Nat.le_of_ble_eq_true rfl) (rb_loop _ M p hS rfl hq)
set_option maxRecDepth 20000 in
theorem c_wrongAt {M : fmM} {Q : fmR → fmM → Prop} {k a : Int32} (h0 : M.1 0 5 = 0 → Q (.inl none) (fmI (fmI M 0 5 k) 0 6 a)) (h1 : ¬ M.1 0 5 = 0 → Q (.inl none) M) : pvGood Tm 0 qX11_wrongAt [.ref 0, .int k, .int a] M Q := by
  refine pvGood_of (Nat.le_of_ble_eq_true rfl) ?_
  show pvEv Tm 0 qX11_wrongAt 0 [some (.ref 0), some (.int k), some (.int a)] [] M Q
  refine pv_aloadn (pc := 0) (n := 0) 0 rfl rfl (fm_dec dtX11_wrongAt 0 rfl) ?_
  refine pv_getI (k := 0) (j := 5) (ci := 11) (pc := 1) pfl_X11_117 (by decide) rfl (by decide) (fm_dec dtX11_wrongAt 1 rfl) ?_
  refine pv_if_ne (pc := 4) 17 (by decide) (fm_dec dtX11_wrongAt 2 rfl) (fun hc4 => ?_) (fun hc4 => ?_)
  · exact pv_return (pc := 17) rfl (fm_dec dtX11_wrongAt 9 rfl) (by first | exact h1 hc4 | exact h0 hc4)
  · refine pv_aloadn (pc := 7) (n := 0) 0 rfl rfl (fm_dec dtX11_wrongAt 3 rfl) ?_
    refine pv_iloadn (pc := 8) (n := 1) 1 rfl rfl (fm_dec dtX11_wrongAt 4 rfl) ?_
    refine pv_putI (k := 0) (j := 5) (ci := 11) (pc := 9) pfl_X11_117 (by decide) rfl (by decide) (fm_dec dtX11_wrongAt 5 rfl) ?_
    refine pv_aloadn (pc := 12) (n := 0) 0 rfl rfl (fm_dec dtX11_wrongAt 6 rfl) ?_
    refine pv_iloadn (pc := 13) (n := 2) 2 rfl rfl (fm_dec dtX11_wrongAt 7 rfl) ?_
    refine pv_putI (k := 0) (j := 6) (ci := 11) (pc := 14) pfl_X11_120 (by decide) rfl (by decide) (fm_dec dtX11_wrongAt 8 rfl) ?_
    exact pv_return (pc := 17) rfl (fm_dec dtX11_wrongAt 9 rfl) (by first | exact h1 hc4 | exact h0 hc4)
set_option maxRecDepth 20000 in
theorem c_in {M : fmM} {Q : fmR → fmM → Prop} {v lo hi : Int32} (ht : lo.toInt ≤ v.toInt → v.toInt ≤ hi.toInt → Q (.inl (some (.int 1))) M) (hf : ¬ (lo.toInt ≤ v.toInt ∧ v.toInt ≤ hi.toInt) → Q (.inl (some (.int 0))) M) : pvGood Tm 0 qX11_in [.int v, .int lo, .int hi] M Q := by
  refine pvGood_of (Nat.le_of_ble_eq_true rfl) ?_
  show pvEv Tm 0 qX11_in 0 [some (.int v), some (.int lo), some (.int hi)] [] M Q
  refine pv_iloadn (pc := 0) (n := 0) 0 rfl rfl (fm_dec dtX11_in 0 rfl) ?_
  refine pv_iloadn (pc := 1) (n := 1) 1 rfl rfl (fm_dec dtX11_in 1 rfl) ?_
  refine pv_icmp_lt (pc := 2) 14 (by decide) (fm_dec dtX11_in 2 rfl) (fun hc2 => ?_) (fun hc2 => ?_)
  · refine pv_iconst (pc := 14) (v := 0) (by decide) (fm_dec dtX11_in 8 rfl) ?_
    exact pv_zreturn (pc := 15) rfl (by first | exact Or.inr rfl | exact Or.inl rfl) (fm_dec dtX11_in 9 rfl) (by first | exact ht (by rw [sc_lt] at hc2; omega) (by rw [sc_lt] at hc7; omega) | exact hf (fun h9 => by rw [sc_lt] at hc2; omega) | exact hf (fun h9 => by rw [sc_lt] at hc7; omega))
  · refine pv_iloadn (pc := 5) (n := 0) 0 rfl rfl (fm_dec dtX11_in 3 rfl) ?_
    refine pv_iloadn (pc := 6) (n := 2) 2 rfl rfl (fm_dec dtX11_in 4 rfl) ?_
    refine pv_icmp_gt (pc := 7) 14 (by decide) (fm_dec dtX11_in 5 rfl) (fun hc7 => ?_) (fun hc7 => ?_)
    · refine pv_iconst (pc := 14) (v := 0) (by decide) (fm_dec dtX11_in 8 rfl) ?_
      exact pv_zreturn (pc := 15) rfl (by first | exact Or.inr rfl | exact Or.inl rfl) (fm_dec dtX11_in 9 rfl) (by first | exact ht (by rw [sc_lt] at hc2; omega) (by rw [sc_lt] at hc7; omega) | exact hf (fun h9 => by rw [sc_lt] at hc2; omega) | exact hf (fun h9 => by rw [sc_lt] at hc7; omega))
    · refine pv_iconst (pc := 10) (v := 1) (by decide) (fm_dec dtX11_in 6 rfl) ?_
      refine pv_goto (pc := 11) 15 (by decide) (fm_dec dtX11_in 7 rfl) ?_
      exact pv_zreturn (pc := 15) rfl (by first | exact Or.inr rfl | exact Or.inl rfl) (fm_dec dtX11_in 9 rfl) (by first | exact ht (by rw [sc_lt] at hc2; omega) (by rw [sc_lt] at hc7; omega) | exact hf (fun h9 => by rw [sc_lt] at hc2; omega) | exact hf (fun h9 => by rw [sc_lt] at hc7; omega))
set_option maxRecDepth 20000 in
theorem nm_loop {Q : fmR → fmM → Prop} {tx : tX} {n : Nat} {lo hi b : Int32} : ∀ (m : Nat) (M : fmM) (q : Nat) (v : Int32) (w : Nat), rS M tx n q → n - q = m → v.toInt = min (w : Int) 100000 → (∀ x v' : Int32, x.toInt = sp tD tx q → v'.toInt = min (nu tx q w : Int) 100000 → pvEv Tm 2 qX11_number 106 [some (.ref 0), some (.int lo), some (.int hi), some (.int b), some (.int v')] [] (fmI M 0 4 x) Q) → pvEv Tm 2 qX11_number 44 [some (.ref 0), some (.int lo), some (.int hi), some (.int b), some (.int v)] [] M Q := by
  intro m
  induction m using Nat.strongRecOn with
  | _ m ih =>
    intro M q v w hS hm hv hq
    refine pv_aloadn (pc := 44) (n := 0) 0 rfl rfl (fm_dec dtX11_number 23 rfl) ?_
    refine pv_aloadn (pc := 45) (n := 0) 0 rfl rfl (fm_dec dtX11_number 24 rfl) ?_
    refine pv_getI (k := 0) (j := 4) (ci := 11) (pc := 46) pfl_X11_110 (by decide) rfl (by decide) (fm_dec dtX11_number 25 rfl) ?_
    refine pv_invV1 (k := 0) (d' := 0) (pc := 49) pcv_X11_113 (by decide) rfl (Nat.le_of_ble_eq_true rfl) (by decide) (fm_dec dtX11_number 26 rfl) ?_
    refine c_byteAt hS q hS.2.1 (fun v49 hv49 => ?_)
    refine pv_then1 ?_
    refine pv_iS1 (d' := 0) (pc := 52) pcs_X11_126 (Nat.le_of_ble_eq_true rfl) (by decide) (fm_dec dtX11_number 27 rfl) ?_
    refine c_isDigit (fun h52 => ?_) (fun h52 => ?_)
    · refine pv_then1 ?_
      refine pv_if_eq (pc := 55) 106 (by decide) (fm_dec dtX11_number 28 rfl) (fun hc55 => by exfalso; revert hc55; decide) (fun _ => ?_)
      refine pv_bipush (pc := 58) (v := 10) (by decide) (fm_dec dtX11_number 29 rfl) ?_
      refine pv_iload (pc := 60) (i := 4) rfl (fm_dec dtX11_number 30 rfl) ?_
      refine pv_imul (pc := 62) (fm_dec dtX11_number 31 rfl) ?_
      refine pv_aloadn (pc := 63) (n := 0) 0 rfl rfl (fm_dec dtX11_number 32 rfl) ?_
      refine pv_aloadn (pc := 64) (n := 0) 0 rfl rfl (fm_dec dtX11_number 33 rfl) ?_
      refine pv_getI (k := 0) (j := 4) (ci := 11) (pc := 65) pfl_X11_110 (by decide) rfl (by decide) (fm_dec dtX11_number 34 rfl) ?_
      refine pv_invV1 (k := 0) (d' := 0) (pc := 68) pcv_X11_113 (by decide) rfl (Nat.le_of_ble_eq_true rfl) (by decide) (fm_dec dtX11_number 35 rfl) ?_
      refine c_byteAt hS q hS.2.1 (fun v68 hv68 => ?_)
      refine pv_then1 ?_
      refine pv_iadd (pc := 71) (fm_dec dtX11_number 36 rfl) ?_
      refine pv_bipush (pc := 72) (v := 48) (by decide) (fm_dec dtX11_number 37 rfl) ?_
      refine pv_isub (pc := 74) (fm_dec dtX11_number 38 rfl) ?_
      refine pv_istore (pc := 75) (i := 4) (by decide) rfl (fm_dec dtX11_number 39 rfl) ?_
      dsimp only [List.set_cons_zero, List.set_cons_succ]
      refine pv_iload (pc := 77) (i := 4) rfl (fm_dec dtX11_number 40 rfl) ?_
      refine pv_ldc (pc := 79) pkc_X11_134 (fm_dec dtX11_number 41 rfl) ?_
      refine pv_icmp_le (pc := 81) 89 (by decide) (fm_dec dtX11_number 42 rfl) (fun hc81 => ?_) (fun hc81 => ?_)
      · refine pv_iload (pc := 89) (i := 4) rfl (fm_dec dtX11_number 45 rfl) ?_
        refine pv_istore (pc := 91) (i := 4) (by decide) rfl (fm_dec dtX11_number 46 rfl) ?_
        dsimp only [List.set_cons_zero, List.set_cons_succ]
        refine pv_aloadn (pc := 93) (n := 0) 0 rfl rfl (fm_dec dtX11_number 47 rfl) ?_
        refine pv_dup (pc := 94) rfl (fm_dec dtX11_number 48 rfl) ?_
        refine pv_getI (k := 0) (j := 4) (ci := 11) (pc := 95) pfl_X11_110 (by decide) rfl (by decide) (fm_dec dtX11_number 49 rfl) ?_
        refine pv_iconst (pc := 98) (v := 1) (by decide) (fm_dec dtX11_number 50 rfl) ?_
        refine pv_iadd (pc := 99) (fm_dec dtX11_number 51 rfl) ?_
        refine pv_putI (k := 0) (j := 4) (ci := 11) (pc := 100) pfl_X11_110 (by decide) rfl (by decide) (fm_dec dtX11_number 52 rfl) ?_
        refine pv_goto (pc := 103) 44 (by decide) (fm_dec dtX11_number 53 rfl) ?_
        rw [hv49] at h52
        have hd := tD_in h52
        have hlt := hS.lt (by omega)
        have e68 := nm_ar hv hv68 hd
        refine ih (n - (q + 1)) (by omega) _ (q + 1) _ (10 * w + (tx q - 48).toNat) (hS.step hlt) rfl (by first | exact nm_le e68 hc81 | exact nm_gt e68 hc81) (fun x v' hx hv' => ?_)
        rw [fmI_fmI]
        exact hq x v' (by rw [sp_t (by have := hS.2.2.2.1.1; omega) h52]; exact hx) (by rw [nu_t (by have := hS.2.2.2.1.1; omega) h52]; exact hv')
      · refine pv_ldc (pc := 84) pkc_X11_134 (fm_dec dtX11_number 43 rfl) ?_
        refine pv_goto (pc := 86) 91 (by decide) (fm_dec dtX11_number 44 rfl) ?_
        refine pv_istore (pc := 91) (i := 4) (by decide) rfl (fm_dec dtX11_number 46 rfl) ?_
        dsimp only [List.set_cons_zero, List.set_cons_succ]
        refine pv_aloadn (pc := 93) (n := 0) 0 rfl rfl (fm_dec dtX11_number 47 rfl) ?_
        refine pv_dup (pc := 94) rfl (fm_dec dtX11_number 48 rfl) ?_
        refine pv_getI (k := 0) (j := 4) (ci := 11) (pc := 95) pfl_X11_110 (by decide) rfl (by decide) (fm_dec dtX11_number 49 rfl) ?_
        refine pv_iconst (pc := 98) (v := 1) (by decide) (fm_dec dtX11_number 50 rfl) ?_
        refine pv_iadd (pc := 99) (fm_dec dtX11_number 51 rfl) ?_
        refine pv_putI (k := 0) (j := 4) (ci := 11) (pc := 100) pfl_X11_110 (by decide) rfl (by decide) (fm_dec dtX11_number 52 rfl) ?_
        refine pv_goto (pc := 103) 44 (by decide) (fm_dec dtX11_number 53 rfl) ?_
        rw [hv49] at h52
        have hd := tD_in h52
        have hlt := hS.lt (by omega)
        have e68 := nm_ar hv hv68 hd
        refine ih (n - (q + 1)) (by omega) _ (q + 1) _ (10 * w + (tx q - 48).toNat) (hS.step hlt) rfl (by first | exact nm_le e68 hc81 | exact nm_gt e68 hc81) (fun x v' hx hv' => ?_)
        rw [fmI_fmI]
        exact hq x v' (by rw [sp_t (by have := hS.2.2.2.1.1; omega) h52]; exact hx) (by rw [nu_t (by have := hS.2.2.2.1.1; omega) h52]; exact hv')
    · refine pv_then1 ?_
      refine pv_if_eq (pc := 55) 106 (by decide) (fm_dec dtX11_number 28 rfl) (fun _ => ?_) (fun hc55 => by exfalso; revert hc55; decide)
      rw [hv49] at h52
      have h9 := hq (M.1 0 4) v (by rw [hS.2.1, sp_f h52]) (by rw [nu_f h52]; exact hv)
      rw [fmI_id] at h9
      exact h9
set_option maxRecDepth 20000 in
theorem nm_t0 {Q : fmR → fmM → Prop} {M : fmM} {lo hi b v : Int32} (hf : M.1 0 5 = 0) (hok : lo.toInt ≤ v.toInt → v.toInt ≤ hi.toInt → Q (.inl (some (.int v))) M) (hbad : ¬ (lo.toInt ≤ v.toInt ∧ v.toInt ≤ hi.toInt) → Q (.inl (some (.int 0))) (fmI (fmI M 0 5 2) 0 6 b)) : pvEv Tm 2 qX11_number 106 [some (.ref 0), some (.int lo), some (.int hi), some (.int b), some (.int v)] [] M Q := by
  refine pv_iload (pc := 106) (i := 4) rfl (fm_dec dtX11_number 54 rfl) ?_
  refine pv_iloadn (pc := 108) (n := 1) 1 rfl rfl (fm_dec dtX11_number 55 rfl) ?_
  refine pv_iloadn (pc := 109) (n := 2) 2 rfl rfl (fm_dec dtX11_number 56 rfl) ?_
  refine pv_iS3 (d' := 0) (pc := 110) pcs_X11_135 (Nat.le_of_ble_eq_true rfl) (by decide) (fm_dec dtX11_number 57 rfl) ?_
  refine c_in (fun h110a h110b => ?_) (fun h110 => ?_)
  · refine pv_then1 ?_
    refine pv_if_ne (pc := 113) 122 (by decide) (fm_dec dtX11_number 58 rfl) (fun _ => ?_) (fun hc113 => by exfalso; revert hc113; decide)
    refine pv_aloadn (pc := 122) (n := 0) 0 rfl rfl (fm_dec dtX11_number 63 rfl) ?_
    refine pv_getI (k := 0) (j := 5) (ci := 11) (pc := 123) pfl_X11_117 (by decide) rfl (by decide) (fm_dec dtX11_number 64 rfl) ?_
    refine pv_if_ne (pc := 126) 134 (by decide) (fm_dec dtX11_number 65 rfl) (fun hc126 => by exfalso; exact hc126 hf) (fun _ => ?_)
    refine pv_iload (pc := 129) (i := 4) rfl (fm_dec dtX11_number 66 rfl) ?_
    refine pv_goto (pc := 131) 135 (by decide) (fm_dec dtX11_number 67 rfl) ?_
    exact pv_ireturn (pc := 135) rfl (fm_dec dtX11_number 69 rfl) (by first | exact hok h110a h110b | exact hbad h110)
  · refine pv_then1 ?_
    refine pv_if_ne (pc := 113) 122 (by decide) (fm_dec dtX11_number 58 rfl) (fun hc113 => by exfalso; revert hc113; decide) (fun _ => ?_)
    refine pv_aloadn (pc := 116) (n := 0) 0 rfl rfl (fm_dec dtX11_number 59 rfl) ?_
    refine pv_iconst (pc := 117) (v := 2) (by decide) (fm_dec dtX11_number 60 rfl) ?_
    refine pv_iloadn (pc := 118) (n := 3) 3 rfl rfl (fm_dec dtX11_number 61 rfl) ?_
    refine pv_invV2 (k := 0) (d' := 0) (pc := 119) pcv_X11_130 (by decide) rfl (Nat.le_of_ble_eq_true rfl) (by decide) (fm_dec dtX11_number 62 rfl) ?_
    refine c_wrongAt (fun _ => ?_) (fun h9 => absurd hf h9) 
    refine pv_then0 ?_
    refine pv_aloadn (pc := 122) (n := 0) 0 rfl rfl (fm_dec dtX11_number 63 rfl) ?_
    refine pv_getI (k := 0) (j := 5) (ci := 11) (pc := 123) pfl_X11_117 (by decide) rfl (by decide) (fm_dec dtX11_number 64 rfl) ?_
    refine pv_if_ne (pc := 126) 134 (by decide) (fm_dec dtX11_number 65 rfl) (fun _ => ?_) (fun hc126 => by exfalso; exact absurd (show (2 : Int32) = 0 from hc126) (by decide))
    refine pv_iconst (pc := 134) (v := 0) (by decide) (fm_dec dtX11_number 68 rfl) ?_
    exact pv_ireturn (pc := 135) rfl (fm_dec dtX11_number 69 rfl) (by first | exact hok h110a h110b | exact hbad h110)
set_option maxRecDepth 20000 in
theorem nm_t1 {Q : fmR → fmM → Prop} {M : fmM} {lo hi b v : Int32} (hf : ¬ M.1 0 5 = 0) (hq : Q (.inl (some (.int 0))) M) : pvEv Tm 2 qX11_number 106 [some (.ref 0), some (.int lo), some (.int hi), some (.int b), some (.int v)] [] M Q := by
  refine pv_iload (pc := 106) (i := 4) rfl (fm_dec dtX11_number 54 rfl) ?_
  refine pv_iloadn (pc := 108) (n := 1) 1 rfl rfl (fm_dec dtX11_number 55 rfl) ?_
  refine pv_iloadn (pc := 109) (n := 2) 2 rfl rfl (fm_dec dtX11_number 56 rfl) ?_
  refine pv_iS3 (d' := 0) (pc := 110) pcs_X11_135 (Nat.le_of_ble_eq_true rfl) (by decide) (fm_dec dtX11_number 57 rfl) ?_
  refine c_in (fun h110a h110b => ?_) (fun h110 => ?_)
  · refine pv_then1 ?_
    refine pv_if_ne (pc := 113) 122 (by decide) (fm_dec dtX11_number 58 rfl) (fun _ => ?_) (fun hc113 => by exfalso; revert hc113; decide)
    refine pv_aloadn (pc := 122) (n := 0) 0 rfl rfl (fm_dec dtX11_number 63 rfl) ?_
    refine pv_getI (k := 0) (j := 5) (ci := 11) (pc := 123) pfl_X11_117 (by decide) rfl (by decide) (fm_dec dtX11_number 64 rfl) ?_
    refine pv_if_ne (pc := 126) 134 (by decide) (fm_dec dtX11_number 65 rfl) (fun _ => ?_) (fun hc126 => by exfalso; exact hf hc126)
    refine pv_iconst (pc := 134) (v := 0) (by decide) (fm_dec dtX11_number 68 rfl) ?_
    exact pv_ireturn (pc := 135) rfl (fm_dec dtX11_number 69 rfl) hq
  · refine pv_then1 ?_
    refine pv_if_ne (pc := 113) 122 (by decide) (fm_dec dtX11_number 58 rfl) (fun hc113 => by exfalso; revert hc113; decide) (fun _ => ?_)
    refine pv_aloadn (pc := 116) (n := 0) 0 rfl rfl (fm_dec dtX11_number 59 rfl) ?_
    refine pv_iconst (pc := 117) (v := 2) (by decide) (fm_dec dtX11_number 60 rfl) ?_
    refine pv_iloadn (pc := 118) (n := 3) 3 rfl rfl (fm_dec dtX11_number 61 rfl) ?_
    refine pv_invV2 (k := 0) (d' := 0) (pc := 119) pcv_X11_130 (by decide) rfl (Nat.le_of_ble_eq_true rfl) (by decide) (fm_dec dtX11_number 62 rfl) ?_
    refine c_wrongAt (fun h9 => absurd h9 hf) (fun _ => ?_) 
    refine pv_then0 ?_
    refine pv_aloadn (pc := 122) (n := 0) 0 rfl rfl (fm_dec dtX11_number 63 rfl) ?_
    refine pv_getI (k := 0) (j := 5) (ci := 11) (pc := 123) pfl_X11_117 (by decide) rfl (by decide) (fm_dec dtX11_number 64 rfl) ?_
    refine pv_if_ne (pc := 126) 134 (by decide) (fm_dec dtX11_number 65 rfl) (fun _ => ?_) (fun hc126 => by exfalso; exact hf hc126)
    refine pv_iconst (pc := 134) (v := 0) (by decide) (fm_dec dtX11_number 68 rfl) ?_
    exact pv_ireturn (pc := 135) rfl (fm_dec dtX11_number 69 rfl) hq
set_option maxRecDepth 20000 in
theorem c_number {M : fmM} {Q : fmR → fmM → Prop} {tx : tX} {n p : Nat} {lo hi : Int32} (hS : rS M tx n p) (hf : M.1 0 5 = 0) (hhi : hi.toInt < 100000) (hok : ∀ (v q : Nat) (x w : Int32), spNum tx lo.toInt hi.toInt p = .inr (v, q) → w.toInt = v → x.toInt = q → Q (.inl (some (.int w))) (fmI M 0 4 x)) (hbad : ∀ (k a q : Nat) (x kk aa : Int32), spNum tx lo.toInt hi.toInt p = .inl (k, a) → kk.toInt = k → aa.toInt = a → x.toInt = q → q ≤ n → Q (.inl (some (.int 0))) (fmI (fmI (fmI M 0 4 x) 0 5 kk) 0 6 aa)) : pvGood Tm 2 qX11_number [.ref 0, .int lo, .int hi] M Q := by
  refine pvGood_of (Nat.le_of_ble_eq_true rfl) ?_
  show pvEv Tm 2 qX11_number 0 [some (.ref 0), some (.int lo), some (.int hi), none, none] [] M Q
  refine pv_aloadn (pc := 0) (n := 0) 0 rfl rfl (fm_dec dtX11_number 0 rfl) ?_
  refine pv_getI (k := 0) (j := 5) (ci := 11) (pc := 1) pfl_X11_117 (by decide) rfl (by decide) (fm_dec dtX11_number 1 rfl) ?_
  refine pv_if_eq (pc := 4) 9 (by decide) (fm_dec dtX11_number 2 rfl) (fun _ => ?_) (fun hc4 => by exfalso; exact hc4 hf)
  refine pv_aloadn (pc := 9) (n := 0) 0 rfl rfl (fm_dec dtX11_number 5 rfl) ?_
  refine pv_invV0 (k := 0) (d' := 1) (pc := 10) pcv_X11_123 (by decide) rfl (Nat.le_of_ble_eq_true rfl) (by decide) (fm_dec dtX11_number 6 rfl) ?_
  refine c_blanks hS (fun x10 hx10 => ?_)
  refine pv_then0 ?_
  refine pv_aloadn (pc := 13) (n := 0) 0 rfl rfl (fm_dec dtX11_number 7 rfl) ?_
  refine pv_getI (k := 0) (j := 4) (ci := 11) (pc := 14) pfl_X11_110 (by decide) rfl (by decide) (fm_dec dtX11_number 8 rfl) ?_
  refine pv_istoren (pc := 17) (n := 3) 3 rfl (by decide) rfl (fm_dec dtX11_number 9 rfl) ?_
  dsimp only [List.set_cons_zero, List.set_cons_succ]
  refine pv_iconst (pc := 18) (v := 0) (by decide) (fm_dec dtX11_number 10 rfl) ?_
  refine pv_istore (pc := 19) (i := 4) (by decide) rfl (fm_dec dtX11_number 11 rfl) ?_
  dsimp only [List.set_cons_zero, List.set_cons_succ]
  refine pv_aloadn (pc := 21) (n := 0) 0 rfl rfl (fm_dec dtX11_number 12 rfl) ?_
  refine pv_aloadn (pc := 22) (n := 0) 0 rfl rfl (fm_dec dtX11_number 13 rfl) ?_
  refine pv_getI (k := 0) (j := 4) (ci := 11) (pc := 23) pfl_X11_110 (by decide) rfl (by decide) (fm_dec dtX11_number 14 rfl) ?_
  refine pv_invV1 (k := 0) (d' := 0) (pc := 26) pcv_X11_113 (by decide) rfl (Nat.le_of_ble_eq_true rfl) (by decide) (fm_dec dtX11_number 15 rfl) ?_
  refine c_byteAt (rS.bl hS hx10) (sk tx p) hx10 (fun v26 hv26 => ?_)
  refine pv_then1 ?_
  refine pv_iS1 (d' := 0) (pc := 29) pcs_X11_126 (Nat.le_of_ble_eq_true rfl) (by decide) (fm_dec dtX11_number 16 rfl) ?_
  refine c_isDigit (fun h29 => ?_) (fun h29 => ?_)
  · refine pv_then1 ?_
    refine pv_if_ne (pc := 32) 44 (by decide) (fm_dec dtX11_number 17 rfl) (fun _ => ?_) (fun hc32 => by exfalso; revert hc32; decide)
    rw [hv26] at h29
    first
      | (refine nm_loop _ _ (sk tx p) _ 0 (rS.bl hS hx10) rfl (by decide) (fun x44 w44 hx44 hw44 => ?_)
         rw [fmI_fmI]
         refine nm_t0 hf (fun h1 h2 => ?_) (fun h3 => ?_)
         · exact hok _ _ x44 w44 (spNum_y h29 (by omega) (by omega)) (by omega) hx44
         · have h9 := hbad 2 (sk tx p) _ x44 2 x10 (spNum_n h29 (by omega)) (by decide) hx10 hx44 (sp_le tD_1 hS.2.2.2.1 (rS.bl hS hx10).2.2.1)
           exact h9)
      | (refine nm_loop _ _ (sk tx p) _ 0 ((rS.bl hS hx10).of rfl rfl rfl) rfl (by decide) (fun x44 w44 hx44 hw44 => ?_)
         refine nm_t1 (fun h9 => absurd (show (1 : Int32) = 0 from h9) (by decide)) ?_
         have h9 := hbad 1 (sk tx p) _ x44 1 x10 (spNum_0 h29) (by decide) hx10 hx44 (sp_le tD_1 hS.2.2.2.1 (rS.bl hS hx10).2.2.1)
         rw [fmI_com3] at h9
         exact h9)
  · refine pv_then1 ?_
    refine pv_if_ne (pc := 32) 44 (by decide) (fm_dec dtX11_number 17 rfl) (fun hc32 => by exfalso; revert hc32; decide) (fun _ => ?_)
    refine pv_aloadn (pc := 35) (n := 0) 0 rfl rfl (fm_dec dtX11_number 18 rfl) ?_
    refine pv_iconst (pc := 36) (v := 1) (by decide) (fm_dec dtX11_number 19 rfl) ?_
    refine pv_aloadn (pc := 37) (n := 0) 0 rfl rfl (fm_dec dtX11_number 20 rfl) ?_
    refine pv_getI (k := 0) (j := 4) (ci := 11) (pc := 38) pfl_X11_110 (by decide) rfl (by decide) (fm_dec dtX11_number 21 rfl) ?_
    refine pv_invV2 (k := 0) (d' := 0) (pc := 41) pcv_X11_130 (by decide) rfl (Nat.le_of_ble_eq_true rfl) (by decide) (fm_dec dtX11_number 22 rfl) ?_
    refine c_wrongAt (fun _ => ?_) (fun h9 => absurd hf h9) 
    refine pv_then0 ?_
    rw [hv26] at h29
    first
      | (refine nm_loop _ _ (sk tx p) _ 0 (rS.bl hS hx10) rfl (by decide) (fun x44 w44 hx44 hw44 => ?_)
         rw [fmI_fmI]
         refine nm_t0 hf (fun h1 h2 => ?_) (fun h3 => ?_)
         · exact hok _ _ x44 w44 (spNum_y h29 (by omega) (by omega)) (by omega) hx44
         · have h9 := hbad 2 (sk tx p) _ x44 2 x10 (spNum_n h29 (by omega)) (by decide) hx10 hx44 (sp_le tD_1 hS.2.2.2.1 (rS.bl hS hx10).2.2.1)
           exact h9)
      | (refine nm_loop _ _ (sk tx p) _ 0 ((rS.bl hS hx10).of rfl rfl rfl) rfl (by decide) (fun x44 w44 hx44 hw44 => ?_)
         refine nm_t1 (fun h9 => absurd (show (1 : Int32) = 0 from h9) (by decide)) ?_
         have h9 := hbad 1 (sk tx p) _ x44 1 x10 (spNum_0 h29) (by decide) hx10 hx44 (sp_le tD_1 hS.2.2.2.1 (rS.bl hS hx10).2.2.1)
         rw [fmI_com3] at h9
         exact h9)
set_option maxRecDepth 20000 in
theorem c_sign {M : fmM} {Q : fmR → fmM → Prop} {tx : tX} {n p : Nat} {c : Int32} (hS : rS M tx n p) (hf : M.1 0 5 = 0) (hok : ∀ (q : Nat) (x : Int32), spSign tx c.toInt p = .inr ((), q) → x.toInt = q → q ≤ n → Q (.inl none) (fmI M 0 4 x)) (hbad : ∀ (k a q : Nat) (x kk aa : Int32), spSign tx c.toInt p = .inl (k, a) → kk.toInt = k → aa.toInt = a → x.toInt = q → q ≤ n → Q (.inl none) (fmI (fmI (fmI M 0 4 x) 0 5 kk) 0 6 aa)) (hc : 0 ≤ c.toInt) : pvGood Tm 2 qX11_sign [.ref 0, .int c] M Q := by
  refine pvGood_of (Nat.le_of_ble_eq_true rfl) ?_
  show pvEv Tm 2 qX11_sign 0 [some (.ref 0), some (.int c)] [] M Q
  refine pv_aloadn (pc := 0) (n := 0) 0 rfl rfl (fm_dec dtX11_sign 0 rfl) ?_
  refine pv_getI (k := 0) (j := 5) (ci := 11) (pc := 1) pfl_X11_117 (by decide) rfl (by decide) (fm_dec dtX11_sign 1 rfl) ?_
  refine pv_if_eq (pc := 4) 8 (by decide) (fm_dec dtX11_sign 2 rfl) (fun _ => ?_) (fun hc4 => by exfalso; exact hc4 hf)
  refine pv_aloadn (pc := 8) (n := 0) 0 rfl rfl (fm_dec dtX11_sign 4 rfl) ?_
  refine pv_invV0 (k := 0) (d' := 1) (pc := 9) pcv_X11_123 (by decide) rfl (Nat.le_of_ble_eq_true rfl) (by decide) (fm_dec dtX11_sign 5 rfl) ?_
  refine c_blanks hS (fun x9 hx9 => ?_)
  refine pv_then0 ?_
  refine pv_aloadn (pc := 12) (n := 0) 0 rfl rfl (fm_dec dtX11_sign 6 rfl) ?_
  refine pv_aloadn (pc := 13) (n := 0) 0 rfl rfl (fm_dec dtX11_sign 7 rfl) ?_
  refine pv_getI (k := 0) (j := 4) (ci := 11) (pc := 14) pfl_X11_110 (by decide) rfl (by decide) (fm_dec dtX11_sign 8 rfl) ?_
  refine pv_invV1 (k := 0) (d' := 0) (pc := 17) pcv_X11_113 (by decide) rfl (Nat.le_of_ble_eq_true rfl) (by decide) (fm_dec dtX11_sign 9 rfl) ?_
  refine c_byteAt (rS.bl hS hx9) (sk tx p) hx9 (fun v17 hv17 => ?_)
  refine pv_then1 ?_
  refine pv_iloadn (pc := 20) (n := 1) 1 rfl rfl (fm_dec dtX11_sign 10 rfl) ?_
  refine pv_icmp_ne (pc := 21) 37 (by decide) (fm_dec dtX11_sign 11 rfl) (fun hc21 => ?_) (fun hc21 => ?_)
  · refine pv_aloadn (pc := 37) (n := 0) 0 rfl rfl (fm_dec dtX11_sign 19 rfl) ?_
    refine pv_iconst (pc := 38) (v := 1) (by decide) (fm_dec dtX11_sign 20 rfl) ?_
    refine pv_aloadn (pc := 39) (n := 0) 0 rfl rfl (fm_dec dtX11_sign 21 rfl) ?_
    refine pv_getI (k := 0) (j := 4) (ci := 11) (pc := 40) pfl_X11_110 (by decide) rfl (by decide) (fm_dec dtX11_sign 22 rfl) ?_
    refine pv_invV2 (k := 0) (d' := 0) (pc := 43) pcv_X11_130 (by decide) rfl (Nat.le_of_ble_eq_true rfl) (by decide) (fm_dec dtX11_sign 23 rfl) ?_
    refine c_wrongAt (fun _ => ?_) (fun h9 => absurd hf h9) 
    refine pv_then0 ?_
    exact pv_return (pc := 46) rfl (fm_dec dtX11_sign 24 rfl) (by first | (have e9 := spSign_y (p := p) hv17 hc21; have h9 := hok _ (x9 + 1) e9 (i32_p1 hx9 (by have := (rS.bl hS hx9).2.2.1; have := hS.2.2.2.1.1; omega)) (spSign_ok hS.2.2.2.1 hS.2.2.1 hc e9).2; rw [← fmI_fmI M 0 4 x9 (x9 + 1)] at h9; exact h9) | exact hbad 1 (sk tx p) _ x9 1 x9 (spSign_n hv17 hc21) (by decide) hx9 hx9 (rS.bl hS hx9).2.2.1)
  · refine pv_aloadn (pc := 24) (n := 0) 0 rfl rfl (fm_dec dtX11_sign 12 rfl) ?_
    refine pv_dup (pc := 25) rfl (fm_dec dtX11_sign 13 rfl) ?_
    refine pv_getI (k := 0) (j := 4) (ci := 11) (pc := 26) pfl_X11_110 (by decide) rfl (by decide) (fm_dec dtX11_sign 14 rfl) ?_
    refine pv_iconst (pc := 29) (v := 1) (by decide) (fm_dec dtX11_sign 15 rfl) ?_
    refine pv_iadd (pc := 30) (fm_dec dtX11_sign 16 rfl) ?_
    refine pv_putI (k := 0) (j := 4) (ci := 11) (pc := 31) pfl_X11_110 (by decide) rfl (by decide) (fm_dec dtX11_sign 17 rfl) ?_
    refine pv_goto (pc := 34) 46 (by decide) (fm_dec dtX11_sign 18 rfl) ?_
    exact pv_return (pc := 46) rfl (fm_dec dtX11_sign 24 rfl) (by first | (have e9 := spSign_y (p := p) hv17 hc21; have h9 := hok _ (x9 + 1) e9 (i32_p1 hx9 (by have := (rS.bl hS hx9).2.2.1; have := hS.2.2.2.1.1; omega)) (spSign_ok hS.2.2.2.1 hS.2.2.1 hc e9).2; rw [← fmI_fmI M 0 4 x9 (x9 + 1)] at h9; exact h9) | exact hbad 1 (sk tx p) _ x9 1 x9 (spSign_n hv17 hc21) (by decide) hx9 hx9 (rS.bl hS hx9).2.2.1)
set_option maxRecDepth 20000 in
theorem c_sign1 {M : fmM} {Q : fmR → fmM → Prop} {c : Int32} (hf : ¬ M.1 0 5 = 0) (hq : Q (.inl none) M) : pvGood Tm 2 qX11_sign [.ref 0, .int c] M Q := by
  refine pvGood_of (Nat.le_of_ble_eq_true rfl) ?_
  show pvEv Tm 2 qX11_sign 0 [some (.ref 0), some (.int c)] [] M Q
  refine pv_aloadn (pc := 0) (n := 0) 0 rfl rfl (fm_dec dtX11_sign 0 rfl) ?_
  refine pv_getI (k := 0) (j := 5) (ci := 11) (pc := 1) pfl_X11_117 (by decide) rfl (by decide) (fm_dec dtX11_sign 1 rfl) ?_
  refine pv_if_eq (pc := 4) 8 (by decide) (fm_dec dtX11_sign 2 rfl) (fun hc4 => by exfalso; exact hf hc4) (fun _ => ?_)
  exact pv_return (pc := 7) rfl (fm_dec dtX11_sign 3 rfl) hq
set_option maxRecDepth 20000 in
theorem c_takesSign {M : fmM} {Q : fmR → fmM → Prop} {tx : tX} {n p : Nat} {c : Int32} (hS : rS M tx n p) (hf : M.1 0 5 = 0) (hc : 0 ≤ c.toInt) (hy : ∀ x : Int32, tx (sk tx p) = c.toInt → x.toInt = (sk tx p + 1 : Nat) → sk tx p + 1 ≤ n → Q (.inl (some (.int 1))) (fmI M 0 4 x)) (hn : ∀ x : Int32, ¬ tx (sk tx p) = c.toInt → x.toInt = sk tx p → Q (.inl (some (.int 0))) (fmI M 0 4 x)) : pvGood Tm 2 qX11_takesSign [.ref 0, .int c] M Q := by
  refine pvGood_of (Nat.le_of_ble_eq_true rfl) ?_
  show pvEv Tm 2 qX11_takesSign 0 [some (.ref 0), some (.int c), none] [] M Q
  refine pv_aloadn (pc := 0) (n := 0) 0 rfl rfl (fm_dec dtX11_takesSign 0 rfl) ?_
  refine pv_getI (k := 0) (j := 5) (ci := 11) (pc := 1) pfl_X11_117 (by decide) rfl (by decide) (fm_dec dtX11_takesSign 1 rfl) ?_
  refine pv_if_eq (pc := 4) 9 (by decide) (fm_dec dtX11_takesSign 2 rfl) (fun _ => ?_) (fun hc4 => by exfalso; exact hc4 hf)
  refine pv_aloadn (pc := 9) (n := 0) 0 rfl rfl (fm_dec dtX11_takesSign 5 rfl) ?_
  refine pv_invV0 (k := 0) (d' := 1) (pc := 10) pcv_X11_123 (by decide) rfl (Nat.le_of_ble_eq_true rfl) (by decide) (fm_dec dtX11_takesSign 6 rfl) ?_
  refine c_blanks hS (fun x10 hx10 => ?_)
  refine pv_then0 ?_
  refine pv_aloadn (pc := 13) (n := 0) 0 rfl rfl (fm_dec dtX11_takesSign 7 rfl) ?_
  refine pv_aloadn (pc := 14) (n := 0) 0 rfl rfl (fm_dec dtX11_takesSign 8 rfl) ?_
  refine pv_getI (k := 0) (j := 4) (ci := 11) (pc := 15) pfl_X11_110 (by decide) rfl (by decide) (fm_dec dtX11_takesSign 9 rfl) ?_
  refine pv_invV1 (k := 0) (d' := 0) (pc := 18) pcv_X11_113 (by decide) rfl (Nat.le_of_ble_eq_true rfl) (by decide) (fm_dec dtX11_takesSign 10 rfl) ?_
  refine c_byteAt (rS.bl hS hx10) (sk tx p) hx10 (fun v18 hv18 => ?_)
  refine pv_then1 ?_
  refine pv_iloadn (pc := 21) (n := 1) 1 rfl rfl (fm_dec dtX11_takesSign 11 rfl) ?_
  refine pv_icmp_ne (pc := 22) 29 (by decide) (fm_dec dtX11_takesSign 12 rfl) (fun hc22 => ?_) (fun hc22 => ?_)
  · refine pv_iconst (pc := 29) (v := 0) (by decide) (fm_dec dtX11_takesSign 15 rfl) ?_
    refine pv_istoren (pc := 30) (n := 2) 2 rfl (by decide) rfl (fm_dec dtX11_takesSign 16 rfl) ?_
    dsimp only [List.set_cons_zero, List.set_cons_succ]
    refine pv_iloadn (pc := 31) (n := 2) 2 rfl rfl (fm_dec dtX11_takesSign 17 rfl) ?_
    refine pv_if_eq (pc := 32) 45 (by decide) (fm_dec dtX11_takesSign 18 rfl) (fun _ => ?_) (fun hc32 => by exfalso; revert hc32; decide)
    refine pv_iloadn (pc := 45) (n := 2) 2 rfl rfl (fm_dec dtX11_takesSign 25 rfl) ?_
    exact pv_zreturn (pc := 46) rfl (by first | exact Or.inr rfl | exact Or.inl rfl) (fm_dec dtX11_takesSign 26 rfl) (by first | exact hn x10 (fun h9 => hc22 (i32_ext (by rw [hv18, h9]))) hx10 | (have e9 : tx (sk tx p) = c.toInt := (by rw [← hv18, hc22]); have l9 := (rS.bl hS hx10).lt (by omega); have h9 := hy (x10 + 1) e9 (i32_p1 hx10 (by have := hS.2.2.2.1.1; omega)) l9; rw [← fmI_fmI M 0 4 x10 (x10 + 1)] at h9; exact h9))
  · refine pv_iconst (pc := 25) (v := 1) (by decide) (fm_dec dtX11_takesSign 13 rfl) ?_
    refine pv_goto (pc := 26) 30 (by decide) (fm_dec dtX11_takesSign 14 rfl) ?_
    refine pv_istoren (pc := 30) (n := 2) 2 rfl (by decide) rfl (fm_dec dtX11_takesSign 16 rfl) ?_
    dsimp only [List.set_cons_zero, List.set_cons_succ]
    refine pv_iloadn (pc := 31) (n := 2) 2 rfl rfl (fm_dec dtX11_takesSign 17 rfl) ?_
    refine pv_if_eq (pc := 32) 45 (by decide) (fm_dec dtX11_takesSign 18 rfl) (fun hc32 => by exfalso; revert hc32; decide) (fun _ => ?_)
    refine pv_aloadn (pc := 35) (n := 0) 0 rfl rfl (fm_dec dtX11_takesSign 19 rfl) ?_
    refine pv_dup (pc := 36) rfl (fm_dec dtX11_takesSign 20 rfl) ?_
    refine pv_getI (k := 0) (j := 4) (ci := 11) (pc := 37) pfl_X11_110 (by decide) rfl (by decide) (fm_dec dtX11_takesSign 21 rfl) ?_
    refine pv_iconst (pc := 40) (v := 1) (by decide) (fm_dec dtX11_takesSign 22 rfl) ?_
    refine pv_iadd (pc := 41) (fm_dec dtX11_takesSign 23 rfl) ?_
    refine pv_putI (k := 0) (j := 4) (ci := 11) (pc := 42) pfl_X11_110 (by decide) rfl (by decide) (fm_dec dtX11_takesSign 24 rfl) ?_
    refine pv_iloadn (pc := 45) (n := 2) 2 rfl rfl (fm_dec dtX11_takesSign 25 rfl) ?_
    exact pv_zreturn (pc := 46) rfl (by first | exact Or.inr rfl | exact Or.inl rfl) (fm_dec dtX11_takesSign 26 rfl) (by first | exact hn x10 (fun h9 => hc22 (i32_ext (by rw [hv18, h9]))) hx10 | (have e9 : tx (sk tx p) = c.toInt := (by rw [← hv18, hc22]); have l9 := (rS.bl hS hx10).lt (by omega); have h9 := hy (x10 + 1) e9 (i32_p1 hx10 (by have := hS.2.2.2.1.1; omega)) l9; rw [← fmI_fmI M 0 4 x10 (x10 + 1)] at h9; exact h9))
set_option maxRecDepth 20000 in
theorem c_takesSign1 {M : fmM} {Q : fmR → fmM → Prop} {c : Int32} (hf : ¬ M.1 0 5 = 0) (hq : Q (.inl (some (.int 0))) M) : pvGood Tm 2 qX11_takesSign [.ref 0, .int c] M Q := by
  refine pvGood_of (Nat.le_of_ble_eq_true rfl) ?_
  show pvEv Tm 2 qX11_takesSign 0 [some (.ref 0), some (.int c), none] [] M Q
  refine pv_aloadn (pc := 0) (n := 0) 0 rfl rfl (fm_dec dtX11_takesSign 0 rfl) ?_
  refine pv_getI (k := 0) (j := 5) (ci := 11) (pc := 1) pfl_X11_117 (by decide) rfl (by decide) (fm_dec dtX11_takesSign 1 rfl) ?_
  refine pv_if_eq (pc := 4) 9 (by decide) (fm_dec dtX11_takesSign 2 rfl) (fun hc4 => by exfalso; exact hf hc4) (fun _ => ?_)
  refine pv_iconst (pc := 7) (v := 0) (by decide) (fm_dec dtX11_takesSign 3 rfl) ?_
  exact pv_zreturn (pc := 8) rfl (by first | exact Or.inr rfl | exact Or.inl rfl) (fm_dec dtX11_takesSign 4 rfl) hq
set_option maxRecDepth 20000 in
theorem wh_loop {Q : fmR → fmM → Prop} {tx : tX} {n a : Nat} {M : fmM} (hS : rS M tx n a) : ∀ (m : Nat) (pre : List Int) (v k : Int32), k.toInt = pre.length → a + pre.length ≤ n → n - (a + pre.length) = m → (∀ c ∈ pre, tW c = true) → v.toInt = w27 0 (pre.take 5) → (∀ r : Int32, r.toInt = (if (pre ++ wd tx (a + pre.length)).length ≤ 5 then w27 0 (pre ++ wd tx (a + pre.length)) else -1) → Q (.inl (some (.int r))) M) → pvEv Tm 2 qX11_wordHere 8 [some (.ref 0), some (.int v), some (.int k)] [] M Q := by
  intro m
  induction m using Nat.strongRecOn with
  | _ m ih =>
    intro pre v k hk hle hm hpre hv hq
    refine pv_aloadn (pc := 8) (n := 0) 0 rfl rfl (fm_dec dtX11_wordHere 6 rfl) ?_
    refine pv_aloadn (pc := 9) (n := 0) 0 rfl rfl (fm_dec dtX11_wordHere 7 rfl) ?_
    refine pv_getI (k := 0) (j := 4) (ci := 11) (pc := 10) pfl_X11_110 (by decide) rfl (by decide) (fm_dec dtX11_wordHere 8 rfl) ?_
    refine pv_iloadn (pc := 13) (n := 2) 2 rfl rfl (fm_dec dtX11_wordHere 9 rfl) ?_
    refine pv_iadd (pc := 14) (fm_dec dtX11_wordHere 10 rfl) ?_
    refine pv_invV1 (k := 0) (d' := 0) (pc := 15) pcv_X11_113 (by decide) rfl (Nat.le_of_ble_eq_true rfl) (by decide) (fm_dec dtX11_wordHere 11 rfl) ?_
    refine c_byteAt hS (a + pre.length) (wh_k hS hk hle) (fun v15 hv15 => ?_)
    refine pv_then1 ?_
    refine pv_iS1 (d' := 0) (pc := 18) pcs_X11_139 (Nat.le_of_ble_eq_true rfl) (by decide) (fm_dec dtX11_wordHere 12 rfl) ?_
    refine c_isSmall (fun h18 => ?_) (fun h18 => ?_)
    · refine pv_then1 ?_
      refine pv_if_eq (pc := 21) 60 (by decide) (fm_dec dtX11_wordHere 13 rfl) (fun hc21 => by exfalso; revert hc21; decide) (fun _ => ?_)
      refine pv_iloadn (pc := 24) (n := 2) 2 rfl rfl (fm_dec dtX11_wordHere 14 rfl) ?_
      refine pv_iconst (pc := 25) (v := 5) (by decide) (fm_dec dtX11_wordHere 15 rfl) ?_
      refine pv_icmp_ge (pc := 26) 52 (by decide) (fm_dec dtX11_wordHere 16 rfl) (fun hc26 => ?_) (fun hc26 => ?_)
      · refine pv_iloadn (pc := 52) (n := 1) 1 rfl rfl (fm_dec dtX11_wordHere 32 rfl) ?_
        refine pv_istoren (pc := 53) (n := 1) 1 rfl (by decide) rfl (fm_dec dtX11_wordHere 33 rfl) ?_
        dsimp only [List.set_cons_zero, List.set_cons_succ]
        refine pv_iincc (pc := 54) 2 1 (by decide) rfl (by decide) rfl (fm_dec dtX11_wordHere 34 rfl) ?_
        dsimp only [List.set_cons_zero, List.set_cons_succ]
        refine pv_goto (pc := 57) 8 (by decide) (fm_dec dtX11_wordHere 35 rfl) ?_
        rw [hv15] at h18
        have hlt := hS.lt2 hle (by have := tW_in h18; omega)
        rw [wd_t (by have := hS.2.2.2.1.1; omega) h18, wh_cons] at hq
        refine ih (n - (a + pre.length + 1)) (by omega) (pre ++ [tx (a + pre.length)]) _ _ (wh_k1 hk hle hS) (by simp; omega) (by simp; omega) (by intro c hc; rcases List.mem_append.mp hc with h9 | h9; exact hpre c h9; rw [List.mem_singleton.mp h9]; exact h18) (by first | exact wh_lt hk hc26 hv hv40 h18 hpre | exact wh_ge hk hc26 hv) (fun r hr => hq r ?_)
        rw [hr]
        simp only [List.length_append, List.length_cons, List.length_nil, Nat.zero_add, Nat.add_assoc]
      · refine pv_bipush (pc := 29) (v := 27) (by decide) (fm_dec dtX11_wordHere 17 rfl) ?_
        refine pv_iloadn (pc := 31) (n := 1) 1 rfl rfl (fm_dec dtX11_wordHere 18 rfl) ?_
        refine pv_imul (pc := 32) (fm_dec dtX11_wordHere 19 rfl) ?_
        refine pv_aloadn (pc := 33) (n := 0) 0 rfl rfl (fm_dec dtX11_wordHere 20 rfl) ?_
        refine pv_aloadn (pc := 34) (n := 0) 0 rfl rfl (fm_dec dtX11_wordHere 21 rfl) ?_
        refine pv_getI (k := 0) (j := 4) (ci := 11) (pc := 35) pfl_X11_110 (by decide) rfl (by decide) (fm_dec dtX11_wordHere 22 rfl) ?_
        refine pv_iloadn (pc := 38) (n := 2) 2 rfl rfl (fm_dec dtX11_wordHere 23 rfl) ?_
        refine pv_iadd (pc := 39) (fm_dec dtX11_wordHere 24 rfl) ?_
        refine pv_invV1 (k := 0) (d' := 0) (pc := 40) pcv_X11_113 (by decide) rfl (Nat.le_of_ble_eq_true rfl) (by decide) (fm_dec dtX11_wordHere 25 rfl) ?_
        refine c_byteAt hS (a + pre.length) (wh_k hS hk hle) (fun v40 hv40 => ?_)
        refine pv_then1 ?_
        refine pv_iadd (pc := 43) (fm_dec dtX11_wordHere 26 rfl) ?_
        refine pv_bipush (pc := 44) (v := 97) (by decide) (fm_dec dtX11_wordHere 27 rfl) ?_
        refine pv_isub (pc := 46) (fm_dec dtX11_wordHere 28 rfl) ?_
        refine pv_iconst (pc := 47) (v := 1) (by decide) (fm_dec dtX11_wordHere 29 rfl) ?_
        refine pv_iadd (pc := 48) (fm_dec dtX11_wordHere 30 rfl) ?_
        refine pv_goto (pc := 49) 53 (by decide) (fm_dec dtX11_wordHere 31 rfl) ?_
        refine pv_istoren (pc := 53) (n := 1) 1 rfl (by decide) rfl (fm_dec dtX11_wordHere 33 rfl) ?_
        dsimp only [List.set_cons_zero, List.set_cons_succ]
        refine pv_iincc (pc := 54) 2 1 (by decide) rfl (by decide) rfl (fm_dec dtX11_wordHere 34 rfl) ?_
        dsimp only [List.set_cons_zero, List.set_cons_succ]
        refine pv_goto (pc := 57) 8 (by decide) (fm_dec dtX11_wordHere 35 rfl) ?_
        rw [hv15] at h18
        have hlt := hS.lt2 hle (by have := tW_in h18; omega)
        rw [wd_t (by have := hS.2.2.2.1.1; omega) h18, wh_cons] at hq
        refine ih (n - (a + pre.length + 1)) (by omega) (pre ++ [tx (a + pre.length)]) _ _ (wh_k1 hk hle hS) (by simp; omega) (by simp; omega) (by intro c hc; rcases List.mem_append.mp hc with h9 | h9; exact hpre c h9; rw [List.mem_singleton.mp h9]; exact h18) (by first | exact wh_lt hk hc26 hv hv40 h18 hpre | exact wh_ge hk hc26 hv) (fun r hr => hq r ?_)
        rw [hr]
        simp only [List.length_append, List.length_cons, List.length_nil, Nat.zero_add, Nat.add_assoc]
    · refine pv_then1 ?_
      refine pv_if_eq (pc := 21) 60 (by decide) (fm_dec dtX11_wordHere 13 rfl) (fun _ => ?_) (fun hc21 => by exfalso; revert hc21; decide)
      rw [hv15] at h18
      rw [wd_f h18, List.append_nil] at hq
      refine pv_iloadn (pc := 60) (n := 2) 2 rfl rfl (fm_dec dtX11_wordHere 36 rfl) ?_
      refine pv_iconst (pc := 61) (v := 5) (by decide) (fm_dec dtX11_wordHere 37 rfl) ?_
      refine pv_icmp_le (pc := 62) 69 (by decide) (fm_dec dtX11_wordHere 38 rfl) (fun hc62 => ?_) (fun hc62 => ?_)
      · refine pv_iloadn (pc := 69) (n := 1) 1 rfl rfl (fm_dec dtX11_wordHere 41 rfl) ?_
        exact pv_ireturn (pc := 70) rfl (fm_dec dtX11_wordHere 42 rfl) (hq _ (by first | exact wh_5 hk hc62 hv | exact wh_6 hk hc62))
      · refine pv_iconst (pc := 65) (v := (-1)) (by decide) (fm_dec dtX11_wordHere 39 rfl) ?_
        refine pv_goto (pc := 66) 70 (by decide) (fm_dec dtX11_wordHere 40 rfl) ?_
        exact pv_ireturn (pc := 70) rfl (fm_dec dtX11_wordHere 42 rfl) (hq _ (by first | exact wh_5 hk hc62 hv | exact wh_6 hk hc62))
set_option maxRecDepth 20000 in
theorem c_wordHere {M : fmM} {Q : fmR → fmM → Prop} {tx : tX} {n p : Nat} (hS : rS M tx n p) (hq : ∀ x r : Int32, x.toInt = sk tx p → r.toInt = (if (wd tx (sk tx p)).length ≤ 5 then w27 0 (wd tx (sk tx p)) else -1) → Q (.inl (some (.int r))) (fmI M 0 4 x)) : pvGood Tm 2 qX11_wordHere [.ref 0] M Q := by
  refine pvGood_of (Nat.le_of_ble_eq_true rfl) ?_
  show pvEv Tm 2 qX11_wordHere 0 [some (.ref 0), none, none] [] M Q
  refine pv_aloadn (pc := 0) (n := 0) 0 rfl rfl (fm_dec dtX11_wordHere 0 rfl) ?_
  refine pv_invV0 (k := 0) (d' := 1) (pc := 1) pcv_X11_123 (by decide) rfl (Nat.le_of_ble_eq_true rfl) (by decide) (fm_dec dtX11_wordHere 1 rfl) ?_
  refine c_blanks hS (fun x1 hx1 => ?_)
  refine pv_then0 ?_
  refine pv_iconst (pc := 4) (v := 0) (by decide) (fm_dec dtX11_wordHere 2 rfl) ?_
  refine pv_istoren (pc := 5) (n := 1) 1 rfl (by decide) rfl (fm_dec dtX11_wordHere 3 rfl) ?_
  dsimp only [List.set_cons_zero, List.set_cons_succ]
  refine pv_iconst (pc := 6) (v := 0) (by decide) (fm_dec dtX11_wordHere 4 rfl) ?_
  refine pv_istoren (pc := 7) (n := 2) 2 rfl (by decide) rfl (fm_dec dtX11_wordHere 5 rfl) ?_
  dsimp only [List.set_cons_zero, List.set_cons_succ]
  exact wh_loop (rS.bl hS hx1) _ [] 0 0 (by decide) (rS.bl hS hx1).2.2.1 rfl (fun c hc => by cases hc) (by decide) (fun r hr => hq x1 r hx1 hr)
set_option maxRecDepth 20000 in
theorem c_five {M : fmM} {Q : fmR → fmM → Prop} {a b c d e : Int32} (hq : Q (.inl (some (.int (fvE a b c d e)))) M) : pvGood Tm 0 qX11_five [.int a, .int b, .int c, .int d, .int e] M Q := by
  refine pvGood_of (Nat.le_of_ble_eq_true rfl) ?_
  show pvEv Tm 0 qX11_five 0 [some (.int a), some (.int b), some (.int c), some (.int d), some (.int e), none] [] M Q
  refine pv_bipush (pc := 0) (v := 27) (by decide) (fm_dec dtX11_five 0 rfl) ?_
  refine pv_iloadn (pc := 2) (n := 0) 0 rfl rfl (fm_dec dtX11_five 1 rfl) ?_
  refine pv_imul (pc := 3) (fm_dec dtX11_five 2 rfl) ?_
  refine pv_iloadn (pc := 4) (n := 1) 1 rfl rfl (fm_dec dtX11_five 3 rfl) ?_
  refine pv_iadd (pc := 5) (fm_dec dtX11_five 4 rfl) ?_
  refine pv_istore (pc := 6) (i := 5) (by decide) rfl (fm_dec dtX11_five 5 rfl) ?_
  dsimp only [List.set_cons_zero, List.set_cons_succ]
  refine pv_iloadn (pc := 8) (n := 2) 2 rfl rfl (fm_dec dtX11_five 6 rfl) ?_
  refine pv_if_ne (pc := 9) 17 (by decide) (fm_dec dtX11_five 7 rfl) (fun hc9 => ?_) (fun hc9 => ?_)
  · refine pv_bipush (pc := 17) (v := 27) (by decide) (fm_dec dtX11_five 10 rfl) ?_
    refine pv_iload (pc := 19) (i := 5) rfl (fm_dec dtX11_five 11 rfl) ?_
    refine pv_imul (pc := 21) (fm_dec dtX11_five 12 rfl) ?_
    refine pv_iloadn (pc := 22) (n := 2) 2 rfl rfl (fm_dec dtX11_five 13 rfl) ?_
    refine pv_iadd (pc := 23) (fm_dec dtX11_five 14 rfl) ?_
    refine pv_istore (pc := 24) (i := 5) (by decide) rfl (fm_dec dtX11_five 15 rfl) ?_
    dsimp only [List.set_cons_zero, List.set_cons_succ]
    refine pv_iloadn (pc := 26) (n := 3) 3 rfl rfl (fm_dec dtX11_five 16 rfl) ?_
    refine pv_if_ne (pc := 27) 35 (by decide) (fm_dec dtX11_five 17 rfl) (fun hc27 => ?_) (fun hc27 => ?_)
    · refine pv_bipush (pc := 35) (v := 27) (by decide) (fm_dec dtX11_five 20 rfl) ?_
      refine pv_iload (pc := 37) (i := 5) rfl (fm_dec dtX11_five 21 rfl) ?_
      refine pv_imul (pc := 39) (fm_dec dtX11_five 22 rfl) ?_
      refine pv_iloadn (pc := 40) (n := 3) 3 rfl rfl (fm_dec dtX11_five 23 rfl) ?_
      refine pv_iadd (pc := 41) (fm_dec dtX11_five 24 rfl) ?_
      refine pv_istore (pc := 42) (i := 5) (by decide) rfl (fm_dec dtX11_five 25 rfl) ?_
      dsimp only [List.set_cons_zero, List.set_cons_succ]
      refine pv_iload (pc := 44) (i := 4) rfl (fm_dec dtX11_five 26 rfl) ?_
      refine pv_if_ne (pc := 46) 54 (by decide) (fm_dec dtX11_five 27 rfl) (fun hc46 => ?_) (fun hc46 => ?_)
      · refine pv_bipush (pc := 54) (v := 27) (by decide) (fm_dec dtX11_five 30 rfl) ?_
        refine pv_iload (pc := 56) (i := 5) rfl (fm_dec dtX11_five 31 rfl) ?_
        refine pv_imul (pc := 58) (fm_dec dtX11_five 32 rfl) ?_
        refine pv_iload (pc := 59) (i := 4) rfl (fm_dec dtX11_five 33 rfl) ?_
        refine pv_iadd (pc := 61) (fm_dec dtX11_five 34 rfl) ?_
        exact pv_ireturn (pc := 62) rfl (fm_dec dtX11_five 35 rfl) (by first | (have h9 := hq; unfold fvE at h9; simp only [hc9, hc27, hc46, if_true, if_false] at h9; exact h9))
      · refine pv_iload (pc := 49) (i := 5) rfl (fm_dec dtX11_five 28 rfl) ?_
        refine pv_goto (pc := 51) 62 (by decide) (fm_dec dtX11_five 29 rfl) ?_
        exact pv_ireturn (pc := 62) rfl (fm_dec dtX11_five 35 rfl) (by first | (have h9 := hq; unfold fvE at h9; simp only [hc9, hc27, hc46, if_true, if_false] at h9; exact h9))
    · refine pv_iload (pc := 30) (i := 5) rfl (fm_dec dtX11_five 18 rfl) ?_
      refine pv_goto (pc := 32) 42 (by decide) (fm_dec dtX11_five 19 rfl) ?_
      refine pv_istore (pc := 42) (i := 5) (by decide) rfl (fm_dec dtX11_five 25 rfl) ?_
      dsimp only [List.set_cons_zero, List.set_cons_succ]
      refine pv_iload (pc := 44) (i := 4) rfl (fm_dec dtX11_five 26 rfl) ?_
      refine pv_if_ne (pc := 46) 54 (by decide) (fm_dec dtX11_five 27 rfl) (fun hc46 => ?_) (fun hc46 => ?_)
      · refine pv_bipush (pc := 54) (v := 27) (by decide) (fm_dec dtX11_five 30 rfl) ?_
        refine pv_iload (pc := 56) (i := 5) rfl (fm_dec dtX11_five 31 rfl) ?_
        refine pv_imul (pc := 58) (fm_dec dtX11_five 32 rfl) ?_
        refine pv_iload (pc := 59) (i := 4) rfl (fm_dec dtX11_five 33 rfl) ?_
        refine pv_iadd (pc := 61) (fm_dec dtX11_five 34 rfl) ?_
        exact pv_ireturn (pc := 62) rfl (fm_dec dtX11_five 35 rfl) (by first | (have h9 := hq; unfold fvE at h9; simp only [hc9, hc27, hc46, if_true, if_false] at h9; exact h9))
      · refine pv_iload (pc := 49) (i := 5) rfl (fm_dec dtX11_five 28 rfl) ?_
        refine pv_goto (pc := 51) 62 (by decide) (fm_dec dtX11_five 29 rfl) ?_
        exact pv_ireturn (pc := 62) rfl (fm_dec dtX11_five 35 rfl) (by first | (have h9 := hq; unfold fvE at h9; simp only [hc9, hc27, hc46, if_true, if_false] at h9; exact h9))
  · refine pv_iload (pc := 12) (i := 5) rfl (fm_dec dtX11_five 8 rfl) ?_
    refine pv_goto (pc := 14) 24 (by decide) (fm_dec dtX11_five 9 rfl) ?_
    refine pv_istore (pc := 24) (i := 5) (by decide) rfl (fm_dec dtX11_five 15 rfl) ?_
    dsimp only [List.set_cons_zero, List.set_cons_succ]
    refine pv_iloadn (pc := 26) (n := 3) 3 rfl rfl (fm_dec dtX11_five 16 rfl) ?_
    refine pv_if_ne (pc := 27) 35 (by decide) (fm_dec dtX11_five 17 rfl) (fun hc27 => ?_) (fun hc27 => ?_)
    · refine pv_bipush (pc := 35) (v := 27) (by decide) (fm_dec dtX11_five 20 rfl) ?_
      refine pv_iload (pc := 37) (i := 5) rfl (fm_dec dtX11_five 21 rfl) ?_
      refine pv_imul (pc := 39) (fm_dec dtX11_five 22 rfl) ?_
      refine pv_iloadn (pc := 40) (n := 3) 3 rfl rfl (fm_dec dtX11_five 23 rfl) ?_
      refine pv_iadd (pc := 41) (fm_dec dtX11_five 24 rfl) ?_
      refine pv_istore (pc := 42) (i := 5) (by decide) rfl (fm_dec dtX11_five 25 rfl) ?_
      dsimp only [List.set_cons_zero, List.set_cons_succ]
      refine pv_iload (pc := 44) (i := 4) rfl (fm_dec dtX11_five 26 rfl) ?_
      refine pv_if_ne (pc := 46) 54 (by decide) (fm_dec dtX11_five 27 rfl) (fun hc46 => ?_) (fun hc46 => ?_)
      · refine pv_bipush (pc := 54) (v := 27) (by decide) (fm_dec dtX11_five 30 rfl) ?_
        refine pv_iload (pc := 56) (i := 5) rfl (fm_dec dtX11_five 31 rfl) ?_
        refine pv_imul (pc := 58) (fm_dec dtX11_five 32 rfl) ?_
        refine pv_iload (pc := 59) (i := 4) rfl (fm_dec dtX11_five 33 rfl) ?_
        refine pv_iadd (pc := 61) (fm_dec dtX11_five 34 rfl) ?_
        exact pv_ireturn (pc := 62) rfl (fm_dec dtX11_five 35 rfl) (by first | (have h9 := hq; unfold fvE at h9; simp only [hc9, hc27, hc46, if_true, if_false] at h9; exact h9))
      · refine pv_iload (pc := 49) (i := 5) rfl (fm_dec dtX11_five 28 rfl) ?_
        refine pv_goto (pc := 51) 62 (by decide) (fm_dec dtX11_five 29 rfl) ?_
        exact pv_ireturn (pc := 62) rfl (fm_dec dtX11_five 35 rfl) (by first | (have h9 := hq; unfold fvE at h9; simp only [hc9, hc27, hc46, if_true, if_false] at h9; exact h9))
    · refine pv_iload (pc := 30) (i := 5) rfl (fm_dec dtX11_five 18 rfl) ?_
      refine pv_goto (pc := 32) 42 (by decide) (fm_dec dtX11_five 19 rfl) ?_
      refine pv_istore (pc := 42) (i := 5) (by decide) rfl (fm_dec dtX11_five 25 rfl) ?_
      dsimp only [List.set_cons_zero, List.set_cons_succ]
      refine pv_iload (pc := 44) (i := 4) rfl (fm_dec dtX11_five 26 rfl) ?_
      refine pv_if_ne (pc := 46) 54 (by decide) (fm_dec dtX11_five 27 rfl) (fun hc46 => ?_) (fun hc46 => ?_)
      · refine pv_bipush (pc := 54) (v := 27) (by decide) (fm_dec dtX11_five 30 rfl) ?_
        refine pv_iload (pc := 56) (i := 5) rfl (fm_dec dtX11_five 31 rfl) ?_
        refine pv_imul (pc := 58) (fm_dec dtX11_five 32 rfl) ?_
        refine pv_iload (pc := 59) (i := 4) rfl (fm_dec dtX11_five 33 rfl) ?_
        refine pv_iadd (pc := 61) (fm_dec dtX11_five 34 rfl) ?_
        exact pv_ireturn (pc := 62) rfl (fm_dec dtX11_five 35 rfl) (by first | (have h9 := hq; unfold fvE at h9; simp only [hc9, hc27, hc46, if_true, if_false] at h9; exact h9))
      · refine pv_iload (pc := 49) (i := 5) rfl (fm_dec dtX11_five 28 rfl) ?_
        refine pv_goto (pc := 51) 62 (by decide) (fm_dec dtX11_five 29 rfl) ?_
        exact pv_ireturn (pc := 62) rfl (fm_dec dtX11_five 35 rfl) (by first | (have h9 := hq; unfold fvE at h9; simp only [hc9, hc27, hc46, if_true, if_false] at h9; exact h9))
set_option maxRecDepth 20000 in
theorem c_isWord {M : fmM} {Q : fmR → fmM → Prop} {tx : tX} {n p : Nat} {a b c d e : Int32} (w : List Int) (hw : (fvE a b c d e).toInt = w27 0 w ∧ w.length ≤ 5 ∧ ∀ c ∈ w, tW c = true) (hS : rS M tx n p) (hf : M.1 0 5 = 0) (hy : ∀ x : Int32, wd tx (sk tx p) = w → x.toInt = sk tx p → Q (.inl (some (.int 1))) (fmI M 0 4 x)) (hn : ∀ x : Int32, ¬ wd tx (sk tx p) = w → x.toInt = sk tx p → Q (.inl (some (.int 0))) (fmI M 0 4 x)) : pvGood Tm 3 qX11_isWord [.ref 0, .int a, .int b, .int c, .int d, .int e] M Q := by
  refine pvGood_of (Nat.le_of_ble_eq_true rfl) ?_
  show pvEv Tm 3 qX11_isWord 0 [some (.ref 0), some (.int a), some (.int b), some (.int c), some (.int d), some (.int e)] [] M Q
  refine pv_aloadn (pc := 0) (n := 0) 0 rfl rfl (fm_dec dtX11_isWord 0 rfl) ?_
  refine pv_getI (k := 0) (j := 5) (ci := 11) (pc := 1) pfl_X11_117 (by decide) rfl (by decide) (fm_dec dtX11_isWord 1 rfl) ?_
  refine pv_if_ne (pc := 4) 28 (by decide) (fm_dec dtX11_isWord 2 rfl) (fun hc4 => by exfalso; exact hc4 hf) (fun _ => ?_)
  refine pv_aloadn (pc := 7) (n := 0) 0 rfl rfl (fm_dec dtX11_isWord 3 rfl) ?_
  refine pv_invV0 (k := 0) (d' := 2) (pc := 8) pcv_X11_142 (by decide) rfl (Nat.le_of_ble_eq_true rfl) (by decide) (fm_dec dtX11_isWord 4 rfl) ?_
  refine c_wordHere hS (fun x8 r8 hx8 hr8 => ?_)
  refine pv_then1 ?_
  refine pv_iloadn (pc := 11) (n := 1) 1 rfl rfl (fm_dec dtX11_isWord 5 rfl) ?_
  refine pv_iloadn (pc := 12) (n := 2) 2 rfl rfl (fm_dec dtX11_isWord 6 rfl) ?_
  refine pv_iloadn (pc := 13) (n := 3) 3 rfl rfl (fm_dec dtX11_isWord 7 rfl) ?_
  refine pv_iload (pc := 14) (i := 4) rfl (fm_dec dtX11_isWord 8 rfl) ?_
  refine pv_iload (pc := 16) (i := 5) rfl (fm_dec dtX11_isWord 9 rfl) ?_
  refine pv_iS5 (d' := 0) (pc := 18) pcs_X11_146 (Nat.le_of_ble_eq_true rfl) (by decide) (fm_dec dtX11_isWord 10 rfl) ?_
  refine c_five ?_
  refine pv_then1 ?_
  refine pv_icmp_ne (pc := 21) 28 (by decide) (fm_dec dtX11_isWord 11 rfl) (fun hc21 => ?_) (fun hc21 => ?_)
  · refine pv_iconst (pc := 28) (v := 0) (by decide) (fm_dec dtX11_isWord 14 rfl) ?_
    exact pv_zreturn (pc := 29) rfl (by first | exact Or.inr rfl | exact Or.inl rfl) (fm_dec dtX11_isWord 15 rfl) (by first | exact hy x8 (iw_y hw hr8 hc21) hx8 | exact hn x8 (iw_n hw hr8 hc21) hx8)
  · refine pv_iconst (pc := 24) (v := 1) (by decide) (fm_dec dtX11_isWord 12 rfl) ?_
    refine pv_goto (pc := 25) 29 (by decide) (fm_dec dtX11_isWord 13 rfl) ?_
    exact pv_zreturn (pc := 29) rfl (by first | exact Or.inr rfl | exact Or.inl rfl) (fm_dec dtX11_isWord 15 rfl) (by first | exact hy x8 (iw_y hw hr8 hc21) hx8 | exact hn x8 (iw_n hw hr8 hc21) hx8)
set_option maxRecDepth 20000 in
theorem c_isWord1 {M : fmM} {Q : fmR → fmM → Prop} {a b c d e : Int32} (hf : ¬ M.1 0 5 = 0) (hq : Q (.inl (some (.int 0))) M) : pvGood Tm 3 qX11_isWord [.ref 0, .int a, .int b, .int c, .int d, .int e] M Q := by
  refine pvGood_of (Nat.le_of_ble_eq_true rfl) ?_
  show pvEv Tm 3 qX11_isWord 0 [some (.ref 0), some (.int a), some (.int b), some (.int c), some (.int d), some (.int e)] [] M Q
  refine pv_aloadn (pc := 0) (n := 0) 0 rfl rfl (fm_dec dtX11_isWord 0 rfl) ?_
  refine pv_getI (k := 0) (j := 5) (ci := 11) (pc := 1) pfl_X11_117 (by decide) rfl (by decide) (fm_dec dtX11_isWord 1 rfl) ?_
  refine pv_if_ne (pc := 4) 28 (by decide) (fm_dec dtX11_isWord 2 rfl) (fun _ => ?_) (fun hc4 => by exfalso; exact hf hc4)
  refine pv_iconst (pc := 28) (v := 0) (by decide) (fm_dec dtX11_isWord 14 rfl) ?_
  exact pv_zreturn (pc := 29) rfl (by first | exact Or.inr rfl | exact Or.inl rfl) (fm_dec dtX11_isWord 15 rfl) hq
set_option maxRecDepth 20000 in
theorem sw_loop {Q : fmR → fmM → Prop} {tx : tX} {n : Nat} : ∀ (m : Nat) (M : fmM) (p : Nat), rS M tx n p → n - p = m → (∀ x : Int32, x.toInt = sp tW tx p → Q (.inl none) (fmI M 0 4 x)) → pvEv Tm 1 qX11_skipWord 0 [some (.ref 0)] [] M Q := by
  intro m
  induction m using Nat.strongRecOn with
  | _ m ih =>
    intro M p hS hm hq
    refine pv_aloadn (pc := 0) (n := 0) 0 rfl rfl (fm_dec dtX11_skipWord 0 rfl) ?_
    refine pv_aloadn (pc := 1) (n := 0) 0 rfl rfl (fm_dec dtX11_skipWord 1 rfl) ?_
    refine pv_getI (k := 0) (j := 4) (ci := 11) (pc := 2) pfl_X11_110 (by decide) rfl (by decide) (fm_dec dtX11_skipWord 2 rfl) ?_
    refine pv_invV1 (k := 0) (d' := 0) (pc := 5) pcv_X11_113 (by decide) rfl (Nat.le_of_ble_eq_true rfl) (by decide) (fm_dec dtX11_skipWord 3 rfl) ?_
    refine c_byteAt hS p hS.2.1 (fun v5 hv5 => ?_)
    refine pv_then1 ?_
    refine pv_iS1 (d' := 0) (pc := 8) pcs_X11_139 (Nat.le_of_ble_eq_true rfl) (by decide) (fm_dec dtX11_skipWord 4 rfl) ?_
    refine c_isSmall (fun h8 => ?_) (fun h8 => ?_)
    · refine pv_then1 ?_
      refine pv_if_eq (pc := 11) 27 (by decide) (fm_dec dtX11_skipWord 5 rfl) (fun hc11 => by exfalso; revert hc11; decide) (fun _ => ?_)
      refine pv_aloadn (pc := 14) (n := 0) 0 rfl rfl (fm_dec dtX11_skipWord 6 rfl) ?_
      refine pv_dup (pc := 15) rfl (fm_dec dtX11_skipWord 7 rfl) ?_
      refine pv_getI (k := 0) (j := 4) (ci := 11) (pc := 16) pfl_X11_110 (by decide) rfl (by decide) (fm_dec dtX11_skipWord 8 rfl) ?_
      refine pv_iconst (pc := 19) (v := 1) (by decide) (fm_dec dtX11_skipWord 9 rfl) ?_
      refine pv_iadd (pc := 20) (fm_dec dtX11_skipWord 10 rfl) ?_
      refine pv_putI (k := 0) (j := 4) (ci := 11) (pc := 21) pfl_X11_110 (by decide) rfl (by decide) (fm_dec dtX11_skipWord 11 rfl) ?_
      refine pv_goto (pc := 24) 0 (by decide) (fm_dec dtX11_skipWord 12 rfl) ?_
      rw [hv5] at h8
      have hlt := hS.lt (by have := tW_in h8; omega)
      refine ih (n - (p + 1)) (by omega) _ (p + 1) (hS.step hlt) rfl (fun x hx => ?_)
      rw [fmI_fmI]
      exact hq x (by rw [sp_t (by have := hS.2.2.2.1.1; omega) h8]; exact hx)
    · refine pv_then1 ?_
      refine pv_if_eq (pc := 11) 27 (by decide) (fm_dec dtX11_skipWord 5 rfl) (fun _ => ?_) (fun hc11 => by exfalso; revert hc11; decide)
      exact pv_return (pc := 27) rfl (fm_dec dtX11_skipWord 13 rfl) (by have h9 := hq (M.1 0 4) (by rw [hS.2.1, sp_f (by rw [hv5] at h8; exact h8)]); rw [fmI_id] at h9; exact h9)
theorem c_skipWord {M : fmM} {Q : fmR → fmM → Prop} {tx : tX} {n p : Nat} (hS : rS M tx n p) (hq : ∀ x : Int32, x.toInt = sp tW tx p → Q (.inl none) (fmI M 0 4 x)) : pvGood Tm 1 qX11_skipWord [.ref 0] M Q := pvGood_of (Nat.le_of_ble_eq_true rfl) (sw_loop _ M p hS rfl hq)
set_option maxRecDepth 20000 in
theorem c_takes {M : fmM} {Q : fmR → fmM → Prop} {tx : tX} {n p : Nat} {a b c d e : Int32} (w : List Int) (hw : (fvE a b c d e).toInt = w27 0 w ∧ w.length ≤ 5 ∧ ∀ c ∈ w, tW c = true) (hS : rS M tx n p) (hf : M.1 0 5 = 0) (hy : ∀ x : Int32, wd tx (sk tx p) = w → x.toInt = sp tW tx (sk tx p) → Q (.inl (some (.int 1))) (fmI M 0 4 x)) (hn : ∀ x : Int32, ¬ wd tx (sk tx p) = w → x.toInt = sk tx p → Q (.inl (some (.int 0))) (fmI M 0 4 x)) : pvGood Tm 4 qX11_takes [.ref 0, .int a, .int b, .int c, .int d, .int e] M Q := by
  refine pvGood_of (Nat.le_of_ble_eq_true rfl) ?_
  show pvEv Tm 4 qX11_takes 0 [some (.ref 0), some (.int a), some (.int b), some (.int c), some (.int d), some (.int e), none] [] M Q
  refine pv_aloadn (pc := 0) (n := 0) 0 rfl rfl (fm_dec dtX11_takes 0 rfl) ?_
  refine pv_iloadn (pc := 1) (n := 1) 1 rfl rfl (fm_dec dtX11_takes 1 rfl) ?_
  refine pv_iloadn (pc := 2) (n := 2) 2 rfl rfl (fm_dec dtX11_takes 2 rfl) ?_
  refine pv_iloadn (pc := 3) (n := 3) 3 rfl rfl (fm_dec dtX11_takes 3 rfl) ?_
  refine pv_iload (pc := 4) (i := 4) rfl (fm_dec dtX11_takes 4 rfl) ?_
  refine pv_iload (pc := 6) (i := 5) rfl (fm_dec dtX11_takes 5 rfl) ?_
  refine pv_invV5 (k := 0) (d' := 3) (pc := 8) pcv_X11_150 (by decide) rfl (Nat.le_of_ble_eq_true rfl) (by decide) (fm_dec dtX11_takes 6 rfl) ?_
  refine c_isWord w hw hS hf (fun x8 hy8 hx8 => ?_) (fun x8 hy8 hx8 => ?_)
  · refine pv_then1 ?_
    refine pv_istore (pc := 11) (i := 6) (by decide) rfl (fm_dec dtX11_takes 7 rfl) ?_
    dsimp only [List.set_cons_zero, List.set_cons_succ]
    refine pv_iload (pc := 13) (i := 6) rfl (fm_dec dtX11_takes 8 rfl) ?_
    refine pv_if_eq (pc := 15) 22 (by decide) (fm_dec dtX11_takes 9 rfl) (fun hc15 => by exfalso; revert hc15; decide) (fun _ => ?_)
    refine pv_aloadn (pc := 18) (n := 0) 0 rfl rfl (fm_dec dtX11_takes 10 rfl) ?_
    refine pv_invV0 (k := 0) (d' := 1) (pc := 19) pcv_X11_154 (by decide) rfl (Nat.le_of_ble_eq_true rfl) (by decide) (fm_dec dtX11_takes 11 rfl) ?_
    refine c_skipWord (rS.bl hS hx8) (fun x19 hx19 => ?_)
    refine pv_then0 ?_
    refine pv_iload (pc := 22) (i := 6) rfl (fm_dec dtX11_takes 12 rfl) ?_
    exact pv_zreturn (pc := 24) rfl (by first | exact Or.inr rfl | exact Or.inl rfl) (fm_dec dtX11_takes 13 rfl) (by first | (have h9 := hy x19 hy8 hx19; rw [← fmI_fmI M 0 4 x8 x19] at h9; exact h9) | exact hn x8 hy8 hx8)
  · refine pv_then1 ?_
    refine pv_istore (pc := 11) (i := 6) (by decide) rfl (fm_dec dtX11_takes 7 rfl) ?_
    dsimp only [List.set_cons_zero, List.set_cons_succ]
    refine pv_iload (pc := 13) (i := 6) rfl (fm_dec dtX11_takes 8 rfl) ?_
    refine pv_if_eq (pc := 15) 22 (by decide) (fm_dec dtX11_takes 9 rfl) (fun _ => ?_) (fun hc15 => by exfalso; revert hc15; decide)
    refine pv_iload (pc := 22) (i := 6) rfl (fm_dec dtX11_takes 12 rfl) ?_
    exact pv_zreturn (pc := 24) rfl (by first | exact Or.inr rfl | exact Or.inl rfl) (fm_dec dtX11_takes 13 rfl) (by first | (have h9 := hy x19 hy8 hx19; rw [← fmI_fmI M 0 4 x8 x19] at h9; exact h9) | exact hn x8 hy8 hx8)
set_option maxRecDepth 20000 in
theorem c_ends {M : fmM} {Q : fmR → fmM → Prop}  (hq : Q (.inl (some (.int (M.1 0 5 - 10)))) (fmI M 0 3 (M.1 0 6))) : pvGood Tm 0 qX11_ends [.ref 0] M Q := by
  refine pvGood_of (Nat.le_of_ble_eq_true rfl) ?_
  show pvEv Tm 0 qX11_ends 0 [some (.ref 0)] [] M Q
  refine pv_aloadn (pc := 0) (n := 0) 0 rfl rfl (fm_dec dtX11_ends 0 rfl) ?_
  refine pv_aloadn (pc := 1) (n := 0) 0 rfl rfl (fm_dec dtX11_ends 1 rfl) ?_
  refine pv_getI (k := 0) (j := 6) (ci := 11) (pc := 2) pfl_X11_120 (by decide) rfl (by decide) (fm_dec dtX11_ends 2 rfl) ?_
  refine pv_putI (k := 0) (j := 3) (ci := 11) (pc := 5) pfl_X11_9 (by decide) rfl (by decide) (fm_dec dtX11_ends 3 rfl) ?_
  refine pv_aloadn (pc := 8) (n := 0) 0 rfl rfl (fm_dec dtX11_ends 4 rfl) ?_
  refine pv_getI (k := 0) (j := 5) (ci := 11) (pc := 9) pfl_X11_117 (by decide) rfl (by decide) (fm_dec dtX11_ends 5 rfl) ?_
  refine pv_bipush (pc := 12) (v := 10) (by decide) (fm_dec dtX11_ends 6 rfl) ?_
  refine pv_isub (pc := 14) (fm_dec dtX11_ends 7 rfl) ?_
  exact pv_ireturn (pc := 15) rfl (fm_dec dtX11_ends 8 rfl) hq
end
-- P 11c
section
-- LAWS AS TEXTS
def spBind {α β : Type} (r : tR α) (k : α → Nat → tR β) : tR β := match r with
  | .inl e => .inl e
  | .inr (v, q) => k v q
def lwWords : List (List Int) := [[97, 103, 101], [121, 101, 97, 114, 115], [119, 111, 114, 116, 104], [100, 101, 97, 100], [102, 97, 99, 116, 115]]
def lwLeast : List Int := [108, 101, 97, 115, 116]
def lwMost : List Int := [109, 111, 115, 116]
def lwK (w : List Int) : Option Nat := if w = [97, 103, 101] then some 0 else if w = [121, 101, 97, 114, 115] then some 1 else if w = [119, 111, 114, 116, 104] then some 2 else if w = [100, 101, 97, 100] then some 3 else if w = [102, 97, 99, 116, 115] then some 4 else none
def spTwo (tx : tX) (rc : Nat → tR tC) (c q : Nat) : tR tC := spBind (spSign tx 91 q) fun _ q => spBind (rc q) fun cs q => spBind (spSign tx 44 q) fun _ q => spBind (rc q) fun ds q => spBind (spSign tx 93 q) fun _ q => .inr (cs ++ ds ++ [(c, 0)], q)
def spPar (tx : tX) (rc : Nat → tR tC) (q : Nat) : tR tC := spBind (rc q) fun cs q => spBind (spSign tx 41 q) fun _ q => .inr (cs, q)
def spApp (r : tR tC) (k : Nat → tR tC) : tR tC := spBind r fun cs q => spBind (k q) fun ds q => .inr (cs ++ ds, q)
def spOp (c : Nat) (r : tR tC) (k : Nat → tR tC) : tR tC := spBind r fun cs q => spBind (k q) fun ds q => .inr (cs ++ (c, 0) :: ds, q)
def spOne (tx : tX) (rc : Nat → tR tC) (o a : Nat) : tR tC :=
  if wd tx a = lwLeast then (if o = 6 then .inl (3, a) else spTwo tx rc 6 (sp tW tx a))
  else if wd tx a = lwMost then (if o = 6 then .inl (3, a) else spTwo tx rc 7 (sp tW tx a))
  else if tx a = 40 then (if o = 6 then .inl (3, a) else spPar tx rc (a + 1))
  else match lwK (wd tx a) with
    | some k => .inr ([(1, k)], sp tW tx a)
    | none => spBind (spNum tx 0 999 a) fun v q => .inr ([(0, v)], q)
def spLp (tx : tX) (c1 c2 : Int) (k1 k2 a : Nat) (rc lp : Nat → tR tC) : tR tC :=
  if tx a = c1 then spOp k1 (rc (a + 1)) lp else if tx a = c2 then spOp k2 (rc (a + 1)) lp else .inr ([], a)
/-- by fuel; 0 a sum, 1 a product, 2 a unit, 3 what follows in a sum, 4 in a product -/
def spL (tx : tX) : Nat → Nat → Nat → Nat → tR tC
  | 0, _, _, _ => .inl (9, 0)
  | f + 1, md, o, p => match md with
    | 0 => spApp (spL tx f 1 o p) (fun q => spL tx f 3 o q)
    | 1 => spApp (spL tx f 2 o p) (fun q => spL tx f 4 o q)
    | 2 => spOne tx (fun q => spL tx f 0 (o + 1) q) o (sk tx p)
    | 3 => spLp tx 43 45 2 3 (sk tx p) (fun q => spL tx f 1 o q) (fun q => spL tx f 3 o q)
    | _ => spLp tx 42 47 4 5 (sk tx p) (fun q => spL tx f 2 o q) (fun q => spL tx f 4 o q)
theorem spBind_ok {α β : Type} {r : tR α} {k : α → Nat → tR β} {v : β} {q : Nat} (h : spBind r k = .inr (v, q)) : ∃ u q0, r = .inr (u, q0) ∧ k u q0 = .inr (v, q) := by
  unfold spBind at h
  split at h
  · cases h
  · exact ⟨_, _, rfl, h⟩
theorem spBind_ne {α β : Type} {r : tR α} {k : α → Nat → tR β} (h : ¬ spBind r k = .inl (9, 0)) : ¬ r = .inl (9, 0) := by
  intro e
  apply h
  rw [e]
  rfl
theorem spBind_ne2 {α β : Type} {r : tR α} {k : α → Nat → tR β} {v : α} {q : Nat} (h : ¬ spBind r k = .inl (9, 0)) (e : r = .inr (v, q)) : ¬ k v q = .inl (9, 0) := by
  intro e2
  apply h
  rw [e]
  exact e2
/-- what is read is behind where it began; no more is noted than was read -/
theorem spL_len {tx : tX} {n : Nat} (ht : tOk tx n) : ∀ (f md o p q : Nat) (cs : tC), p ≤ n → spL tx f md o p = .inr (cs, q) → p + cs.length ≤ q ∧ q ≤ n ∧ (md < 3 → p < q) := by
  intro f
  induction f with
  | zero => intro md o p q cs _ h; cases h
  | succ f ih =>
    have hsk : ∀ p, p ≤ n → p ≤ sk tx p ∧ sk tx p ≤ n := fun p h => ⟨sp_ge p, sp_le tB_1 ht h⟩
    have app : ∀ (m1 m2 o p q : Nat) (cs : tC), m1 < 3 → p ≤ n → spApp (spL tx f m1 o p) (fun q => spL tx f m2 o q) = .inr (cs, q) → p + cs.length ≤ q ∧ q ≤ n ∧ p < q := by
      intro m1 m2 o p q cs h1 hp h
      obtain ⟨c1, q1, e1, h⟩ := spBind_ok h
      obtain ⟨c2, q2, e2, h⟩ := spBind_ok h
      cases h
      have a1 := ih _ _ _ _ _ hp e1
      have a2 := ih _ _ _ _ _ a1.2.1 e2
      simp only [List.length_append]
      exact ⟨by omega, by omega, by have := a1.2.2 h1; omega⟩
    have op : ∀ (c m1 m2 o p q : Nat) (cs : tC), p ≤ n → spOp c (spL tx f m1 o p) (fun q => spL tx f m2 o q) = .inr (cs, q) → p + cs.length ≤ q + 1 ∧ q ≤ n := by
      intro c m1 m2 o p q cs hp h
      obtain ⟨c1, q1, e1, h⟩ := spBind_ok h
      obtain ⟨c2, q2, e2, h⟩ := spBind_ok h
      cases h
      have a1 := ih _ _ _ _ _ hp e1
      have a2 := ih _ _ _ _ _ a1.2.1 e2
      simp only [List.length_append, List.length_cons]
      omega
    have lp : ∀ (c1 c2 : Int) (k1 k2 m1 m2 o p q : Nat) (cs : tC), 0 ≤ c1 → 0 ≤ c2 → p ≤ n → spLp tx c1 c2 k1 k2 (sk tx p) (fun q => spL tx f m1 o q) (fun q => spL tx f m2 o q) = .inr (cs, q) → p + cs.length ≤ q ∧ q ≤ n := by
      intro c1 c2 k1 k2 m1 m2 o p q cs h1 h2 hp h
      obtain ⟨s1, s2⟩ := hsk p hp
      have inn : ∀ c : Int, 0 ≤ c → tx (sk tx p) = c → sk tx p + 1 ≤ n := by
        intro c hc e
        by_cases e2 : sk tx p < n
        · exact e2
        · rw [ht.2.1 _ (by omega)] at e
          omega
      unfold spLp at h
      split at h
      · rename_i e
        have := op _ _ _ _ _ _ _ (inn c1 h1 e) h
        omega
      · split at h
        · rename_i e
          have := op _ _ _ _ _ _ _ (inn c2 h2 e) h
          omega
        · cases h
          simp
          omega
    have one : ∀ (o p q : Nat) (cs : tC), p ≤ n → spOne tx (fun q => spL tx f 0 (o + 1) q) o (sk tx p) = .inr (cs, q) → p + cs.length ≤ q ∧ q ≤ n ∧ p < q := by
      intro o p q cs hp h
      obtain ⟨s1, s2⟩ := hsk p hp
      have w1 := sp_ge (P := tW) (tx := tx) (sk tx p)
      have w2 := sp_le (p := sk tx p) tW_1 ht s2
      have w3 := wd_len (tx := tx) (p := sk tx p)
      have two : ∀ c, 0 < (wd tx (sk tx p)).length → spTwo tx (fun q => spL tx f 0 (o + 1) q) c (sp tW tx (sk tx p)) = .inr (cs, q) → p + cs.length ≤ q ∧ q ≤ n ∧ p < q := by
        intro c hc h
        obtain ⟨u1, q1, e1, h⟩ := spBind_ok h
        obtain ⟨c2, q2, e2, h⟩ := spBind_ok h
        obtain ⟨u3, q3, e3, h⟩ := spBind_ok h
        obtain ⟨c4, q4, e4, h⟩ := spBind_ok h
        obtain ⟨u5, q5, e5, h⟩ := spBind_ok h
        cases h
        have a1 := spSign_ok ht w2 (by omega) e1
        have a2 := ih _ _ _ _ _ a1.2 e2
        have a3 := spSign_ok ht a2.2.1 (by omega) e3
        have a4 := ih _ _ _ _ _ a3.2 e4
        have a5 := spSign_ok ht a4.2.1 (by omega) e5
        simp only [List.length_append, List.length_cons, List.length_nil]
        omega
      unfold spOne at h
      split at h
      · rename_i e
        split at h
        · cases h
        · exact two 6 (by rw [e]; decide) h
      · split at h
        · rename_i e
          split at h
          · cases h
          · exact two 7 (by rw [e]; decide) h
        · split at h
          · rename_i e
            split at h
            · cases h
            · have inn : sk tx p + 1 ≤ n := by
                by_cases e2 : sk tx p < n
                · exact e2
                · rw [ht.2.1 _ (by omega)] at e
                  omega
              obtain ⟨c1, q1, e1, h⟩ := spBind_ok h
              obtain ⟨u2, q2, e2, h⟩ := spBind_ok h
              cases h
              have a1 := ih _ _ _ _ _ inn e1
              have a2 := spSign_ok ht a1.2.1 (by omega) e2
              omega
          · split at h
            · rename_i k hk
              cases h
              have : (wd tx (sk tx p)).length ≠ 0 := by
                intro e0
                rw [List.length_eq_zero_iff.mp e0] at hk
                simp [lwK] at hk
              simp
              omega
            · obtain ⟨v1, q1, e1, h⟩ := spBind_ok h
              cases h
              have a1 := spNum_ok ht s2 e1
              simp
              omega
    intro md o p q cs hp h
    match md with
    | 0 => exact ⟨(app 1 3 o p q cs (by omega) hp h).1, (app 1 3 o p q cs (by omega) hp h).2.1, fun _ => (app 1 3 o p q cs (by omega) hp h).2.2⟩
    | 1 => exact ⟨(app 2 4 o p q cs (by omega) hp h).1, (app 2 4 o p q cs (by omega) hp h).2.1, fun _ => (app 2 4 o p q cs (by omega) hp h).2.2⟩
    | 2 => exact ⟨(one o p q cs hp h).1, (one o p q cs hp h).2.1, fun _ => (one o p q cs hp h).2.2⟩
    | 3 => exact ⟨(lp 43 45 2 3 1 3 o p q cs (by omega) (by omega) hp h).1, (lp 43 45 2 3 1 3 o p q cs (by omega) (by omega) hp h).2, fun h => by omega⟩
    | md + 4 => exact ⟨(lp 42 47 4 5 2 4 o p q cs (by omega) (by omega) hp h).1, (lp 42 47 4 5 2 4 o p q cs (by omega) (by omega) hp h).2, fun h => by omega⟩
theorem spBind_nf {α β : Type} {r : tR α} {k : α → Nat → tR β} (h1 : ¬ r = .inl (9, 0)) (h2 : ∀ v q, r = .inr (v, q) → ¬ k v q = .inl (9, 0)) : ¬ spBind r k = .inl (9, 0) := by
  intro e
  unfold spBind at e
  split at e
  · rename_i e1
    apply h1
    cases e
    rfl
  · exact h2 _ _ rfl e
theorem spSign_nf {tx : tX} {c : Int} {p : Nat} : ¬ spSign tx c p = .inl (9, 0) := by
  unfold spSign
  split
  · intro h; cases h
  · intro h; injection h with h; injection h with h; omega
theorem spNum_nf {tx : tX} {lo hi : Int} {p : Nat} : ¬ spNum tx lo hi p = .inl (9, 0) := by
  unfold spNum
  split
  · split
    · intro h; cases h
    · intro h; injection h with h; injection h with h; omega
  · intro h; injection h with h; injection h with h; omega
def spFu (md : Nat) : Nat := if md = 0 then 3 else if md = 1 then 2 else 1
/-- there is fuel enough -/
theorem spL_fuel {tx : tX} {n : Nat} (ht : tOk tx n) : ∀ (f md o p : Nat), p ≤ n → 4 * (n - p) + spFu md ≤ f → ¬ spL tx f md o p = .inl (9, 0) := by
  intro f
  induction f with
  | zero =>
    intro md o p _ h
    unfold spFu at h
    split at h
    · omega
    · split at h <;> omega
  | succ f ih =>
    have hsk : ∀ p, p ≤ n → p ≤ sk tx p ∧ sk tx p ≤ n := fun p h => ⟨sp_ge p, sp_le tB_1 ht h⟩
    have app : ∀ (m1 m2 o p : Nat), m1 < 3 → p ≤ n → spFu m1 ≤ 2 → spFu m2 = 1 → 4 * (n - p) + spFu m1 ≤ f → ¬ spApp (spL tx f m1 o p) (fun q => spL tx f m2 o q) = .inl (9, 0) := by
      intro m1 m2 o p h1 hp h2 h3 h
      refine spBind_nf (ih _ _ _ hp h) (fun cs q e => ?_)
      have a := spL_len ht _ _ _ _ _ _ hp e
      refine spBind_nf (ih _ _ _ a.2.1 (by have := a.2.2 h1; omega)) (fun ds r _ => ?_)
      intro h; cases h
    have op : ∀ (c m1 m2 o p : Nat), p ≤ n → m1 < 3 → spFu m2 = 1 → 4 * (n - p) + spFu m1 ≤ f → ¬ spOp c (spL tx f m1 o p) (fun q => spL tx f m2 o q) = .inl (9, 0) := by
      intro c m1 m2 o p hp h1 h3 h
      refine spBind_nf (ih _ _ _ hp h) (fun cs q e => ?_)
      have a := spL_len ht _ _ _ _ _ _ hp e
      refine spBind_nf (ih _ _ _ a.2.1 (by have := a.2.2 h1; omega)) (fun ds r _ => ?_)
      intro h; cases h
    have inn : ∀ (c : Int) (p : Nat), p ≤ n → 0 ≤ c → tx p = c → p + 1 ≤ n := by
      intro c p hp hc e
      by_cases e2 : p < n
      · exact e2
      · rw [ht.2.1 _ (by omega)] at e
        omega
    have lp : ∀ (c1 c2 : Int) (k1 k2 m1 m2 o p : Nat), 0 ≤ c1 → 0 ≤ c2 → m1 < 3 → spFu m1 ≤ 2 → spFu m2 = 1 → p ≤ n → 4 * (n - p) + 1 ≤ f + 1 → ¬ spLp tx c1 c2 k1 k2 (sk tx p) (fun q => spL tx f m1 o q) (fun q => spL tx f m2 o q) = .inl (9, 0) := by
      intro c1 c2 k1 k2 m1 m2 o p h1 h2 h5 h3 h4 hp h
      obtain ⟨s1, s2⟩ := hsk p hp
      unfold spLp
      split
      · rename_i e
        have := inn c1 _ s2 h1 e
        exact op _ _ _ _ _ this h5 h4 (by omega)
      · split
        · rename_i e
          have := inn c2 _ s2 h2 e
          exact op _ _ _ _ _ this h5 h4 (by omega)
        · intro h; cases h
    have one : ∀ (o p : Nat), p ≤ n → 4 * (n - p) + 1 ≤ f + 1 → ¬ spOne tx (fun q => spL tx f 0 (o + 1) q) o (sk tx p) = .inl (9, 0) := by
      intro o p hp h
      obtain ⟨s1, s2⟩ := hsk p hp
      have w1 := sp_ge (P := tW) (tx := tx) (sk tx p)
      have w2 := sp_le (p := sk tx p) tW_1 ht s2
      have f0 : spFu 0 = 3 := rfl
      have two : ∀ c, ¬ spTwo tx (fun q => spL tx f 0 (o + 1) q) c (sp tW tx (sk tx p)) = .inl (9, 0) := by
        intro c
        refine spBind_nf spSign_nf (fun u1 q1 e1 => ?_)
        have a1 := spSign_ok ht w2 (by omega) e1
        refine spBind_nf (ih _ _ _ a1.2 (by omega)) (fun c2 q2 e2 => ?_)
        have a2 := spL_len ht _ _ _ _ _ _ a1.2 e2
        refine spBind_nf spSign_nf (fun u3 q3 e3 => ?_)
        have a3 := spSign_ok ht a2.2.1 (by omega) e3
        refine spBind_nf (ih _ _ _ a3.2 (by omega)) (fun c4 q4 e4 => ?_)
        refine spBind_nf spSign_nf (fun u5 q5 e5 => ?_)
        intro h; cases h
      unfold spOne
      split
      · split
        · intro h; injection h with h; injection h with h; omega
        · exact two 6
      · split
        · split
          · intro h; injection h with h; injection h with h; omega
          · exact two 7
        · split
          · rename_i e
            split
            · intro h; injection h with h; injection h with h; omega
            · have := inn 40 _ s2 (by omega) e
              refine spBind_nf (ih _ _ _ this (by omega)) (fun c2 q2 e2 => ?_)
              refine spBind_nf spSign_nf (fun u5 q5 e5 => ?_)
              intro h; cases h
          · split
            · intro h; cases h
            · refine spBind_nf spNum_nf (fun u5 q5 e5 => ?_)
              intro h; cases h
    intro md o p hp h
    match md with
    | 0 => exact app 1 3 o p (by omega) hp (by decide) rfl (by have : spFu 0 = 3 := rfl; have : spFu 1 = 2 := rfl; omega)
    | 1 => exact app 2 4 o p (by omega) hp (by decide) rfl (by have : spFu 1 = 2 := rfl; have : spFu 2 = 1 := rfl; omega)
    | 2 => exact one o p hp h
    | 3 => exact lp 43 45 2 3 1 3 o p (by omega) (by omega) (by omega) (by decide) rfl hp h
    | md + 4 => exact lp 42 47 4 5 2 4 o p (by omega) (by omega) (by omega) (by decide) rfl hp (by have h9 : spFu (md + 4) = 1 := (by simp [spFu]); omega)
end
