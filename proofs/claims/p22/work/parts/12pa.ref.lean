abbrev cc_X11_thrown_0 : scC := (qX11_thrown, 0, [], [.inr (.inr (.inl [0]))], [], [(1, (0, 2), [], [], [])], [])
set_option maxRecDepth 20000 in
abbrev xx_X11_thrown_0 : scX := (Tm, invM, lnX11, [], cc_X11_thrown_0)
set_option maxRecDepth 20000 in
theorem hh_X11_thrown_0 : scH Tm invM cc_X11_thrown_0 := scCheck_ok (X := xx_X11_thrown_0) (nodes := []) (fuel := 4000) ⟨lqX11, fa_nil⟩ dtX11_thrown (by decide +kernel)
abbrev cc_X11_feed_0 : scC := (qX11_feed, 0, [((-2147483648), 2147483647), ((-2147483648), 2147483647), ((-2147483648), 2147483647), ((-2147483648), 2147483647), ((-2147483648), 2147483647)], [.inr (.inr (.inl [0])), .inl (some 0, 0), .inl (some 1, 0), .inl (some 2, 0), .inl (some 3, 0), .inl (some 4, 0)], [], [(1, ((-1), 600), [], [], [])], [(0, 0, 2), (1, 0, 600)])
set_option maxRecDepth 20000 in
abbrev xx_X11_feed_0 : scX := (Tm, invM, lnX11, [], cc_X11_feed_0)
set_option maxRecDepth 20000 in
theorem hh_X11_feed_0 : scH Tm invM cc_X11_feed_0 := scCheck_ok (X := xx_X11_feed_0) (nodes := []) (fuel := 4000) ⟨lqX11, fa_nil⟩ dtX11_feed (by decide +kernel)
abbrev cc_X11_fault_0 : scC := (qX11_fault, 0, [], [.inr (.inr (.inl [0]))], [], [(1, ((-1), 600), [], [], [])], [(0, 0, 1)])
set_option maxRecDepth 20000 in
abbrev xx_X11_fault_0 : scX := (Tm, invM, lnX11, [], cc_X11_fault_0)
set_option maxRecDepth 20000 in
theorem hh_X11_fault_0 : scH Tm invM cc_X11_fault_0 := scCheck_ok (X := xx_X11_fault_0) (nodes := []) (fuel := 4000) ⟨lqX11, fa_nil⟩ dtX11_fault (by decide +kernel)
abbrev cc_X11_copies_2 : scC := (qX11_copies, 0, [], [.inr (.inr (.inl [503, 504, 505, 506, 507, 508, 509, 510, 511, 512, 513, 514, 515, 516, 517, 518])), .inr (.inr (.inl [7]))], [], [(0, (0, 0), [], [], [])], [(7, 0, 14)])
set_option maxRecDepth 20000 in
abbrev xx_X11_copies_2 : scX := (Tm, invM, lnX11, [], cc_X11_copies_2)
set_option maxRecDepth 20000 in
theorem hh_X11_copies_2 : scH Tm invM cc_X11_copies_2 := scCheck_ok (X := xx_X11_copies_2) (nodes := []) (fuel := 4000) ⟨lqX11, fa_nil⟩ dtX11_copies (by decide +kernel)
abbrev cc_X11_undo_0 : scC := (qX11_undo, 1, [], [.inr (.inr (.inl [0]))], [], [(1, ((-1), 15), [], [], [])], [(0, 0, 1), (0, 32, 2), (7, 0, 14)])
set_option maxRecDepth 20000 in
abbrev xx_X11_undo_0 : scX := (Tm, invM, lnX11, [(323, 1, 0, cc_X11_copies_2)], cc_X11_undo_0)
set_option maxRecDepth 20000 in
theorem hh_X11_undo_0 : scH Tm invM cc_X11_undo_0 := scCheck_ok (X := xx_X11_undo_0) (nodes := []) (fuel := 4000) ⟨lqX11, fa_cons (⟨pcs_X11_323, hh_X11_copies_2⟩) (fa_nil)⟩ dtX11_undo (by decide +kernel)
abbrev cc_X11_in_0 : scC := (qX11_in, 0, [((-2147483648), 2147483647), (0, 0), (8, 8)], [.inl (some 0, 0), .inl (some 1, 0), .inl (some 2, 0)], [], [(1, (0, 0), [], [], []), (1, (1, 1), [], [(0, (0, 8))], [])], [])
set_option maxRecDepth 20000 in
abbrev xx_X11_in_0 : scX := (Tm, invM, lnX11, [], cc_X11_in_0)
set_option maxRecDepth 20000 in
theorem hh_X11_in_0 : scH Tm invM cc_X11_in_0 := scCheck_ok (X := xx_X11_in_0) (nodes := []) (fuel := 4000) ⟨lqX11, fa_nil⟩ dtX11_in (by decide +kernel)
abbrev cc_X11_bad_0 : scC := (qX11_bad, 0, [], [.inr (.inr (.inl [0])), .inl (none, 0), .inl (none, 1), .inl (none, 1)], [((0, 0), (none, 0))], [(1, (0, 0), [], [], [((0, 0), (0, 0))])], [])
set_option maxRecDepth 20000 in
abbrev xx_X11_bad_0 : scX := (Tm, invM, lnX11, [], cc_X11_bad_0)
set_option maxRecDepth 20000 in
theorem hh_X11_bad_0 : scH Tm invM cc_X11_bad_0 := scCheck_ok (X := xx_X11_bad_0) (nodes := []) (fuel := 4000) ⟨lqX11, fa_nil⟩ dtX11_bad (by decide +kernel)
abbrev cc_X11_aliveIn_0 : scC := (qX11_aliveIn, 1, [], [.inr (.inr (.inl [0])), .inr (.inr (.inl [7]))], [], [(1, ((-2147483648), 2147483647), [], [], [])], [])
set_option maxRecDepth 20000 in
abbrev xx_X11_aliveIn_0 : scX := (Tm, invM, lnX11, [(256, 1, 0, cc_X11_has_0)], cc_X11_aliveIn_0)
set_option maxRecDepth 20000 in
theorem hh_X11_aliveIn_0 : scH Tm invM cc_X11_aliveIn_0 := scCheck_ok (X := xx_X11_aliveIn_0) (nodes := [(4, ([((-2147483648), 2147483647), (0, 8), ((-2147483648), 2147483647), (0, 8)], [some (.inr (.inr (.inl [0]))), some (.inr (.inr (.inl [7]))), some (.inl (some 0, 0)), some (.inl (some 1, 0))], [], [((7, 0), (some 2, 0)), ((4, 0), (some 3, 0))]), ([0, (-2)], 16))]) (fuel := 4000) ⟨lqX11, fa_cons (⟨pcs_X11_256, hh_X11_has_0⟩) (fa_nil)⟩ dtX11_aliveIn (by decide +kernel)
abbrev cc_X11_bad_1 : scC := (qX11_bad, 0, [], [.inr (.inr (.inl [0])), .inl (none, 1), .inl (none, 1), .inl (none, 1)], [((0, 0), (none, 0))], [(1, (1, 1), [], [], [((0, 0), (1, 1))])], [(0, 0, 1), (2, 1, 1)])
set_option maxRecDepth 20000 in
abbrev xx_X11_bad_1 : scX := (Tm, invM, lnX11, [], cc_X11_bad_1)
set_option maxRecDepth 20000 in
theorem hh_X11_bad_1 : scH Tm invM cc_X11_bad_1 := scCheck_ok (X := xx_X11_bad_1) (nodes := []) (fuel := 4000) ⟨lqX11, fa_nil⟩ dtX11_bad (by decide +kernel)
abbrev cc_X11_told_0 : scC := (qX11_told, 2, [((-2147483648), 2147483647)], [.inr (.inr (.inl [0])), .inl (some 0, 0)], [], [(1, ((-2147483648), 2147483647), [], [], [])], [(0, 0, 1), (2, 1, 1)])
set_option maxRecDepth 20000 in
abbrev xx_X11_told_0 : scX := (Tm, invM, lnX11, [(135, 1, 0, cc_X11_in_0), (177, 0, 11, cc_X11_bad_0), (177, 0, 11, cc_X11_bad_1), (283, 1, 0, cc_X11_hasPiece_1), (327, 0, 11, cc_X11_aliveIn_0)], cc_X11_told_0)
set_option maxRecDepth 20000 in
theorem hh_X11_told_0 : scH Tm invM cc_X11_told_0 := scCheck_ok (X := xx_X11_told_0) (nodes := [(116, ([(4, 4), ((-2147483648), 2147483647), (0, 8), (0, 0), (0, 8)], [some (.inr (.inr (.inl [0]))), some (.inl (some 0, 0)), some (.inl (some 1, 0)), some (.inl (some 2, 0))], [], [((0, 0), (some 3, 0)), ((4, 0), (some 4, 0))]), ([0, 0, (-2)], 16))]) (fuel := 4000) ⟨lqX11, fa_cons (⟨pcs_X11_135, hh_X11_in_0⟩) (fa_cons (⟨⟨3, _, pcv_X11_177, rfl⟩, hh_X11_bad_0⟩) (fa_cons (⟨⟨3, _, pcv_X11_177, rfl⟩, hh_X11_bad_1⟩) (fa_cons (⟨pcs_X11_283, hh_X11_hasPiece_1⟩) (fa_cons (⟨⟨1, _, pcv_X11_327, rfl⟩, hh_X11_aliveIn_0⟩) (fa_nil)))))⟩ dtX11_told (by decide +kernel)
abbrev cc_X11_in_1 : scC := (qX11_in, 0, [((-2147483648), 2147483647), (0, 0), ((-1), 7)], [.inl (some 0, 0), .inl (some 1, 0), .inl (some 2, 0)], [], [(1, (0, 0), [], [], []), (1, (1, 1), [], [(0, (0, 7)), (2, (0, 7))], [])], [])
set_option maxRecDepth 20000 in
abbrev xx_X11_in_1 : scX := (Tm, invM, lnX11, [], cc_X11_in_1)
set_option maxRecDepth 20000 in
theorem hh_X11_in_1 : scH Tm invM cc_X11_in_1 := scCheck_ok (X := xx_X11_in_1) (nodes := []) (fuel := 4000) ⟨lqX11, fa_nil⟩ dtX11_in (by decide +kernel)
abbrev cc_X11_isLife_0 : scC := (qX11_isLife, 1, [((-2147483648), 2147483647)], [.inr (.inr (.inl [0])), .inl (some 0, 0)], [], [(1, (0, 0), [], [], []), (1, (1, 1), [], [(0, (0, 7))], [])], [])
set_option maxRecDepth 20000 in
abbrev xx_X11_isLife_0 : scX := (Tm, invM, lnX11, [(135, 1, 0, cc_X11_in_1)], cc_X11_isLife_0)
set_option maxRecDepth 20000 in
theorem hh_X11_isLife_0 : scH Tm invM cc_X11_isLife_0 := scCheck_ok (X := xx_X11_isLife_0) (nodes := []) (fuel := 4000) ⟨lqX11, fa_cons (⟨pcs_X11_135, hh_X11_in_1⟩) (fa_nil)⟩ dtX11_isLife (by decide +kernel)
abbrev cc_X11_bad_2 : scC := (qX11_bad, 0, [], [.inr (.inr (.inl [0])), .inl (none, 0), .inl (none, 1), .inl (none, 0)], [((0, 0), (none, 0))], [(1, (0, 0), [], [], [((0, 0), (0, 0))])], [])
set_option maxRecDepth 20000 in
abbrev xx_X11_bad_2 : scX := (Tm, invM, lnX11, [], cc_X11_bad_2)
set_option maxRecDepth 20000 in
theorem hh_X11_bad_2 : scH Tm invM cc_X11_bad_2 := scCheck_ok (X := xx_X11_bad_2) (nodes := []) (fuel := 4000) ⟨lqX11, fa_nil⟩ dtX11_bad (by decide +kernel)
abbrev cc_X11_in_2 : scC := (qX11_in, 0, [((-2147483648), 2147483647), (0, 0), (7, 7)], [.inl (some 0, 0), .inl (some 1, 0), .inl (some 2, 0)], [], [(1, (0, 0), [], [], []), (1, (1, 1), [], [(0, (0, 7))], [])], [])
set_option maxRecDepth 20000 in
abbrev xx_X11_in_2 : scX := (Tm, invM, lnX11, [], cc_X11_in_2)
set_option maxRecDepth 20000 in
theorem hh_X11_in_2 : scH Tm invM cc_X11_in_2 := scCheck_ok (X := xx_X11_in_2) (nodes := []) (fuel := 4000) ⟨lqX11, fa_nil⟩ dtX11_in (by decide +kernel)
abbrev cc_X11_bad_3 : scC := (qX11_bad, 0, [], [.inr (.inr (.inl [0])), .inl (none, 0), .inl (none, 2), .inl (none, 1)], [((0, 0), (none, 0))], [(1, (0, 0), [], [], [((0, 0), (0, 0))])], [])
set_option maxRecDepth 20000 in
abbrev xx_X11_bad_3 : scX := (Tm, invM, lnX11, [], cc_X11_bad_3)
set_option maxRecDepth 20000 in
theorem hh_X11_bad_3 : scH Tm invM cc_X11_bad_3 := scCheck_ok (X := xx_X11_bad_3) (nodes := []) (fuel := 4000) ⟨lqX11, fa_nil⟩ dtX11_bad (by decide +kernel)
abbrev cc_X11_bad_4 : scC := (qX11_bad, 0, [], [.inr (.inr (.inl [0])), .inl (none, 1), .inl (none, 2), .inl (none, 1)], [((0, 0), (none, 0))], [(1, (1, 1), [], [], [((0, 0), (2, 2))])], [(0, 0, 1), (2, 1, 1)])
set_option maxRecDepth 20000 in
abbrev xx_X11_bad_4 : scX := (Tm, invM, lnX11, [], cc_X11_bad_4)
set_option maxRecDepth 20000 in
theorem hh_X11_bad_4 : scH Tm invM cc_X11_bad_4 := scCheck_ok (X := xx_X11_bad_4) (nodes := []) (fuel := 4000) ⟨lqX11, fa_nil⟩ dtX11_bad (by decide +kernel)
abbrev cc_X11_bad_5 : scC := (qX11_bad, 0, [], [.inr (.inr (.inl [0])), .inl (none, 1), .inl (none, 1), .inl (none, 0)], [((0, 0), (none, 0))], [(1, (1, 1), [], [], [((0, 0), (1, 1))])], [(0, 0, 1), (2, 0, 1)])
set_option maxRecDepth 20000 in
abbrev xx_X11_bad_5 : scX := (Tm, invM, lnX11, [], cc_X11_bad_5)
set_option maxRecDepth 20000 in
theorem hh_X11_bad_5 : scH Tm invM cc_X11_bad_5 := scCheck_ok (X := xx_X11_bad_5) (nodes := []) (fuel := 4000) ⟨lqX11, fa_nil⟩ dtX11_bad (by decide +kernel)
abbrev cc_X11_life_0 : scC := (qX11_life, 2, [((-2147483648), 2147483647), ((-2147483648), 2147483647)], [.inr (.inr (.inl [0])), .inl (some 0, 0), .inl (some 1, 0)], [], [(1, ((-200), 1200), [], [], [])], [(0, 0, 1), (2, 0, 2)])
set_option maxRecDepth 20000 in
abbrev xx_X11_life_0 : scX := (Tm, invM, lnX11, [(135, 1, 0, cc_X11_in_2), (177, 0, 11, cc_X11_bad_2), (177, 0, 11, cc_X11_bad_5), (177, 0, 11, cc_X11_bad_3), (177, 0, 11, cc_X11_bad_4), (263, 0, 11, cc_X11_yearsOf_0), (283, 1, 0, cc_X11_hasPiece_1), (287, 0, 11, cc_X11_renewHours_0), (331, 0, 11, cc_X11_isLife_0)], cc_X11_life_0)
set_option maxRecDepth 20000 in
theorem hh_X11_life_0 : scH Tm invM cc_X11_life_0 := scCheck_ok (X := xx_X11_life_0) (nodes := []) (fuel := 4000) ⟨lqX11, fa_cons (⟨pcs_X11_135, hh_X11_in_2⟩) (fa_cons (⟨⟨3, _, pcv_X11_177, rfl⟩, hh_X11_bad_2⟩) (fa_cons (⟨⟨3, _, pcv_X11_177, rfl⟩, hh_X11_bad_5⟩) (fa_cons (⟨⟨3, _, pcv_X11_177, rfl⟩, hh_X11_bad_3⟩) (fa_cons (⟨⟨3, _, pcv_X11_177, rfl⟩, hh_X11_bad_4⟩) (fa_cons (⟨⟨2, _, pcv_X11_263, rfl⟩, hh_X11_yearsOf_0⟩) (fa_cons (⟨pcs_X11_283, hh_X11_hasPiece_1⟩) (fa_cons (⟨⟨1, _, pcv_X11_287, rfl⟩, hh_X11_renewHours_0⟩) (fa_cons (⟨⟨1, _, pcv_X11_331, rfl⟩, hh_X11_isLife_0⟩) (fa_nil)))))))))⟩ dtX11_life (by decide +kernel)
abbrev cc_X11_factsAt_0 : scC := (qX11_factsAt, 0, [((-2147483648), 2147483647), ((-2147483648), 2147483647)], [.inr (.inr (.inl [0])), .inl (some 0, 0), .inl (some 1, 0)], [], [(1, ((-2147483648), 2147483647), [], [], [])], [])
set_option maxRecDepth 20000 in
abbrev xx_X11_factsAt_0 : scX := (Tm, invM, lnX11, [], cc_X11_factsAt_0)
set_option maxRecDepth 20000 in
theorem hh_X11_factsAt_0 : scH Tm invM cc_X11_factsAt_0 := scCheck_ok (X := xx_X11_factsAt_0) (nodes := [(5, ([((-2147483648), 2147483647), ((-2147483648), 2147483647), ((-2147483648), 2147483647), (0, 24), (0, 5), (0, 60), (0, 7), (0, 24)], [some (.inr (.inr (.inl [0]))), some (.inl (some 0, 0)), some (.inl (some 1, 0)), some (.inl (some 2, 0)), some (.inl (some 3, 0))], [], [((67, 1), (some 4, 0)), ((67, 2), (some 5, 0)), ((67, 0), (some 6, 0)), ((4, 1), (some 7, 0))]), ([0, 0, 0, (-2)], 48))]) (fuel := 4000) ⟨lqX11, fa_nil⟩ dtX11_factsAt (by decide +kernel)
abbrev cc_X11_facts_0 : scC := (qX11_facts, 2, [((-2147483648), 2147483647)], [.inr (.inr (.inl [0])), .inl (some 0, 0)], [], [(1, ((-2147483648), 2147483647), [], [], [])], [(0, 0, 1), (2, 0, 1)])
set_option maxRecDepth 20000 in
abbrev xx_X11_facts_0 : scX := (Tm, invM, lnX11, [(177, 0, 11, cc_X11_bad_2), (177, 0, 11, cc_X11_bad_5), (331, 0, 11, cc_X11_isLife_0), (334, 0, 11, cc_X11_factsAt_0)], cc_X11_facts_0)
set_option maxRecDepth 20000 in
theorem hh_X11_facts_0 : scH Tm invM cc_X11_facts_0 := scCheck_ok (X := xx_X11_facts_0) (nodes := []) (fuel := 4000) ⟨lqX11, fa_cons (⟨⟨3, _, pcv_X11_177, rfl⟩, hh_X11_bad_2⟩) (fa_cons (⟨⟨3, _, pcv_X11_177, rfl⟩, hh_X11_bad_5⟩) (fa_cons (⟨⟨1, _, pcv_X11_331, rfl⟩, hh_X11_isLife_0⟩) (fa_cons (⟨⟨2, _, pcv_X11_334, rfl⟩, hh_X11_factsAt_0⟩) (fa_nil))))⟩ dtX11_facts (by decide +kernel)
abbrev cc_X11_wrongOf_0 : scC := (qX11_wrongOf, 6, [(0, 7)], [.inr (.inr (.inl [0])), .inl (some 0, 0)], [], [(1, ((-1), 64), [], [], [])], [(5, 0, 160), (6, 0, 5)])
set_option maxRecDepth 20000 in
abbrev xx_X11_wrongOf_0 : scX := (Tm, invM, lnX11, [(276, 0, 11, cc_X11_wrongIn_1), (283, 1, 0, cc_X11_hasPiece_1)], cc_X11_wrongOf_0)
set_option maxRecDepth 20000 in
theorem hh_X11_wrongOf_0 : scH Tm invM cc_X11_wrongOf_0 := scCheck_ok (X := xx_X11_wrongOf_0) (nodes := []) (fuel := 4000) ⟨lqX11, fa_cons (⟨⟨4, _, pcv_X11_276, rfl⟩, hh_X11_wrongIn_1⟩) (fa_cons (⟨pcs_X11_283, hh_X11_hasPiece_1⟩) (fa_nil))⟩ dtX11_wrongOf (by decide +kernel)
abbrev cc_X11_wrong_0 : scC := (qX11_wrong, 7, [((-2147483648), 2147483647)], [.inr (.inr (.inl [0])), .inl (some 0, 0)], [], [(1, ((-1), 64), [], [], [])], [(0, 0, 1), (2, 0, 1), (5, 0, 160), (6, 0, 5)])
set_option maxRecDepth 20000 in
abbrev xx_X11_wrong_0 : scX := (Tm, invM, lnX11, [(177, 0, 11, cc_X11_bad_2), (177, 0, 11, cc_X11_bad_5), (331, 0, 11, cc_X11_isLife_0), (337, 0, 11, cc_X11_wrongOf_0)], cc_X11_wrong_0)
set_option maxRecDepth 20000 in
theorem hh_X11_wrong_0 : scH Tm invM cc_X11_wrong_0 := scCheck_ok (X := xx_X11_wrong_0) (nodes := []) (fuel := 4000) ⟨lqX11, fa_cons (⟨⟨3, _, pcv_X11_177, rfl⟩, hh_X11_bad_2⟩) (fa_cons (⟨⟨3, _, pcv_X11_177, rfl⟩, hh_X11_bad_5⟩) (fa_cons (⟨⟨1, _, pcv_X11_331, rfl⟩, hh_X11_isLife_0⟩) (fa_cons (⟨⟨1, _, pcv_X11_337, rfl⟩, hh_X11_wrongOf_0⟩) (fa_nil))))⟩ dtX11_wrong (by decide +kernel)
abbrev cc_X11_in_3 : scC := (qX11_in, 0, [((-2147483648), 2147483647), (0, 0), (200, 200)], [.inl (some 0, 0), .inl (some 1, 0), .inl (some 2, 0)], [], [(1, (0, 0), [], [], []), (1, (1, 1), [], [(0, (0, 200))], [])], [])
set_option maxRecDepth 20000 in
abbrev xx_X11_in_3 : scX := (Tm, invM, lnX11, [], cc_X11_in_3)
set_option maxRecDepth 20000 in
theorem hh_X11_in_3 : scH Tm invM cc_X11_in_3 := scCheck_ok (X := xx_X11_in_3) (nodes := []) (fuel := 4000) ⟨lqX11, fa_nil⟩ dtX11_in (by decide +kernel)
abbrev cc_X11_in_4 : scC := (qX11_in, 0, [((-2147483648), 2147483647), (1, 1), (99, 99)], [.inl (some 0, 0), .inl (some 1, 0), .inl (some 2, 0)], [], [(1, (0, 0), [], [], []), (1, (1, 1), [], [(0, (1, 99))], [])], [])
set_option maxRecDepth 20000 in
abbrev xx_X11_in_4 : scX := (Tm, invM, lnX11, [], cc_X11_in_4)
set_option maxRecDepth 20000 in
theorem hh_X11_in_4 : scH Tm invM cc_X11_in_4 := scCheck_ok (X := xx_X11_in_4) (nodes := []) (fuel := 4000) ⟨lqX11, fa_nil⟩ dtX11_in (by decide +kernel)
abbrev cc_X11_in_5 : scC := (qX11_in, 0, [((-2147483648), 2147483647), (0, 0), (1, 1)], [.inl (some 0, 0), .inl (some 1, 0), .inl (some 2, 0)], [], [(1, (0, 0), [], [], []), (1, (1, 1), [], [(0, (0, 1))], [])], [])
set_option maxRecDepth 20000 in
abbrev xx_X11_in_5 : scX := (Tm, invM, lnX11, [], cc_X11_in_5)
set_option maxRecDepth 20000 in
theorem hh_X11_in_5 : scH Tm invM cc_X11_in_5 := scCheck_ok (X := xx_X11_in_5) (nodes := []) (fuel := 4000) ⟨lqX11, fa_nil⟩ dtX11_in (by decide +kernel)
abbrev cc_X11_in_6 : scC := (qX11_in, 0, [((-2147483648), 2147483647), (0, 0), (24, 24)], [.inl (some 0, 0), .inl (some 1, 0), .inl (some 2, 0)], [], [(1, (0, 0), [], [], []), (1, (1, 1), [], [(0, (0, 24))], [])], [])
set_option maxRecDepth 20000 in
abbrev xx_X11_in_6 : scX := (Tm, invM, lnX11, [], cc_X11_in_6)
set_option maxRecDepth 20000 in
theorem hh_X11_in_6 : scH Tm invM cc_X11_in_6 := scCheck_ok (X := xx_X11_in_6) (nodes := []) (fuel := 4000) ⟨lqX11, fa_nil⟩ dtX11_in (by decide +kernel)
abbrev cc_X11_would_0 : scC := (qX11_would, 5, [((-2147483648), 2147483647), ((-2147483648), 2147483647), ((-2147483648), 2147483647), ((-2147483648), 2147483647), ((-2147483648), 2147483647)], [.inr (.inr (.inl [0])), .inl (some 0, 0), .inl (some 1, 0), .inl (some 2, 0), .inl (some 3, 0), .inl (some 4, 0)], [], [(1, (0, 64), [], [], [])], [(0, 0, 1), (2, 1, 1), (5, 0, 160), (6, 0, 5)])
set_option maxRecDepth 20000 in
abbrev xx_X11_would_0 : scX := (Tm, invM, lnX11, [(135, 1, 0, cc_X11_in_3), (135, 1, 0, cc_X11_in_4), (135, 1, 0, cc_X11_in_5), (135, 1, 0, cc_X11_in_6), (177, 0, 11, cc_X11_bad_0), (177, 0, 11, cc_X11_bad_1), (273, 0, 11, cc_X11_wrongBy_0)], cc_X11_would_0)
set_option maxRecDepth 20000 in
theorem hh_X11_would_0 : scH Tm invM cc_X11_would_0 := scCheck_ok (X := xx_X11_would_0) (nodes := []) (fuel := 4000) ⟨lqX11, fa_cons (⟨pcs_X11_135, hh_X11_in_3⟩) (fa_cons (⟨pcs_X11_135, hh_X11_in_4⟩) (fa_cons (⟨pcs_X11_135, hh_X11_in_5⟩) (fa_cons (⟨pcs_X11_135, hh_X11_in_6⟩) (fa_cons (⟨⟨3, _, pcv_X11_177, rfl⟩, hh_X11_bad_0⟩) (fa_cons (⟨⟨3, _, pcv_X11_177, rfl⟩, hh_X11_bad_1⟩) (fa_cons (⟨⟨5, _, pcv_X11_273, rfl⟩, hh_X11_wrongBy_0⟩) (fa_nil)))))))⟩ dtX11_would (by decide +kernel)
abbrev cc_X11_noPart_0 : scC := (qX11_noPart, 1, [((-2147483648), 2147483647)], [.inr (.inr (.inl [0])), .inl (some 0, 0), .inl (none, 1)], [((0, 0), (none, 0))], [(1, (0, 0), [], [(0, (0, 1))], [((0, 0), (0, 0))]), (1, (1, 1), [], [], [((0, 0), (1, 1))])], [(0, 0, 1), (2, 1, 1)])
set_option maxRecDepth 20000 in
abbrev xx_X11_noPart_0 : scX := (Tm, invM, lnX11, [(135, 1, 0, cc_X11_in_5), (177, 0, 11, cc_X11_bad_0), (177, 0, 11, cc_X11_bad_1)], cc_X11_noPart_0)
set_option maxRecDepth 20000 in
theorem hh_X11_noPart_0 : scH Tm invM cc_X11_noPart_0 := scCheck_ok (X := xx_X11_noPart_0) (nodes := []) (fuel := 4000) ⟨lqX11, fa_cons (⟨pcs_X11_135, hh_X11_in_5⟩) (fa_cons (⟨⟨3, _, pcv_X11_177, rfl⟩, hh_X11_bad_0⟩) (fa_cons (⟨⟨3, _, pcv_X11_177, rfl⟩, hh_X11_bad_1⟩) (fa_nil)))⟩ dtX11_noPart (by decide +kernel)
abbrev cc_X11_loss_0 : scC := (qX11_loss, 2, [((-2147483648), 2147483647)], [.inr (.inr (.inl [0])), .inl (some 0, 0)], [], [(2, ((-9223372036854775808), 9223372036854775807), [], [], [])], [(0, 0, 1), (2, 1, 1)])
set_option maxRecDepth 20000 in
abbrev xx_X11_loss_0 : scX := (Tm, invM, lnX11, [(340, 0, 11, cc_X11_noPart_0), (345, 1, 0, cc_hand_partOf)], cc_X11_loss_0)
set_option maxRecDepth 20000 in
theorem hh_X11_loss_0 : scH Tm invM cc_X11_loss_0 := scCheck_ok (X := xx_X11_loss_0) (nodes := []) (fuel := 4000) ⟨lqX11, fa_cons (⟨⟨2, _, pcv_X11_340, rfl⟩, hh_X11_noPart_0⟩) (fa_cons (⟨pcs_X11_345, hh_hand_partOf⟩) (fa_nil))⟩ dtX11_loss (by decide +kernel)
abbrev cc_X11_noPart_1 : scC := (qX11_noPart, 1, [((-2147483648), 2147483647)], [.inr (.inr (.inl [0])), .inl (some 0, 0), .inl (none, 2)], [((0, 0), (none, 0))], [(1, (0, 0), [], [(0, (0, 1))], [((0, 0), (0, 0))]), (1, (1, 1), [], [], [((0, 0), (2, 2))])], [(0, 0, 1), (2, 1, 1)])
set_option maxRecDepth 20000 in
abbrev xx_X11_noPart_1 : scX := (Tm, invM, lnX11, [(135, 1, 0, cc_X11_in_5), (177, 0, 11, cc_X11_bad_3), (177, 0, 11, cc_X11_bad_4)], cc_X11_noPart_1)
set_option maxRecDepth 20000 in
theorem hh_X11_noPart_1 : scH Tm invM cc_X11_noPart_1 := scCheck_ok (X := xx_X11_noPart_1) (nodes := []) (fuel := 4000) ⟨lqX11, fa_cons (⟨pcs_X11_135, hh_X11_in_5⟩) (fa_cons (⟨⟨3, _, pcv_X11_177, rfl⟩, hh_X11_bad_3⟩) (fa_cons (⟨⟨3, _, pcv_X11_177, rfl⟩, hh_X11_bad_4⟩) (fa_nil)))⟩ dtX11_noPart (by decide +kernel)
abbrev cc_X11_cost_0 : scC := (qX11_cost, 8, [((-2147483648), 2147483647), ((-2147483648), 2147483647)], [.inr (.inr (.inl [0])), .inl (some 0, 0), .inl (some 1, 0)], [], [(2, ((-9223372036854775808), 9223372036854775807), [], [], [])], [(0, 0, 1), (2, 0, 2), (5, 0, 160), (6, 0, 5)])
set_option maxRecDepth 20000 in
abbrev xx_X11_cost_0 : scX := (Tm, invM, lnX11, [(177, 0, 11, cc_X11_bad_2), (177, 0, 11, cc_X11_bad_5), (293, 0, 11, cc_X11_costOf_1), (331, 0, 11, cc_X11_isLife_0), (340, 0, 11, cc_X11_noPart_1), (345, 1, 0, cc_hand_partOf)], cc_X11_cost_0)
set_option maxRecDepth 20000 in
theorem hh_X11_cost_0 : scH Tm invM cc_X11_cost_0 := scCheck_ok (X := xx_X11_cost_0) (nodes := []) (fuel := 4000) ⟨lqX11, fa_cons (⟨⟨3, _, pcv_X11_177, rfl⟩, hh_X11_bad_2⟩) (fa_cons (⟨⟨3, _, pcv_X11_177, rfl⟩, hh_X11_bad_5⟩) (fa_cons (⟨⟨2, _, pcv_X11_293, rfl⟩, hh_X11_costOf_1⟩) (fa_cons (⟨⟨1, _, pcv_X11_331, rfl⟩, hh_X11_isLife_0⟩) (fa_cons (⟨⟨2, _, pcv_X11_340, rfl⟩, hh_X11_noPart_1⟩) (fa_cons (⟨pcs_X11_345, hh_hand_partOf⟩) (fa_nil))))))⟩ dtX11_cost (by decide +kernel)
abbrev cc_X11_riskOf_0 : scC := (qX11_riskOf, 8, [], [.inr (.inr (.inl [0])), .inr (.inr (.inl [7]))], [], [(2, ((-9223372036854775808), 9223372036854775807), [], [], [])], [(5, 0, 160), (6, 0, 5)])
set_option maxRecDepth 20000 in
abbrev xx_X11_riskOf_0 : scX := (Tm, invM, lnX11, [(293, 0, 11, cc_X11_costOf_1)], cc_X11_riskOf_0)
set_option maxRecDepth 20000 in
theorem hh_X11_riskOf_0 : scH Tm invM cc_X11_riskOf_0 := scCheck_ok (X := xx_X11_riskOf_0) (nodes := [(5, ([(0, 8), (0, 64), (0, 8)], [some (.inr (.inr (.inl [0]))), some (.inr (.inr (.inl [7]))), some (.inr (.inl ((-9223372036854775808), 9223372036854775807))), none, some (.inl (some 0, 0))], [], [((35, 1), (some 1, 0)), ((4, 0), (some 2, 0))]), ([(-2)], 16))]) (fuel := 4000) ⟨lqX11, fa_cons (⟨⟨2, _, pcv_X11_293, rfl⟩, hh_X11_costOf_1⟩) (fa_nil)⟩ dtX11_riskOf (by decide +kernel)
abbrev cc_X11_risk_0 : scC := (qX11_risk, 9, [((-2147483648), 2147483647)], [.inr (.inr (.inl [0])), .inl (some 0, 0)], [], [(2, ((-9223372036854775808), 9223372036854775807), [], [], [])], [(0, 0, 1), (2, 1, 1), (5, 0, 160), (6, 0, 5)])
set_option maxRecDepth 20000 in
abbrev xx_X11_risk_0 : scX := (Tm, invM, lnX11, [(340, 0, 11, cc_X11_noPart_0), (345, 1, 0, cc_hand_partOf), (349, 0, 11, cc_X11_riskOf_0)], cc_X11_risk_0)
set_option maxRecDepth 20000 in
theorem hh_X11_risk_0 : scH Tm invM cc_X11_risk_0 := scCheck_ok (X := xx_X11_risk_0) (nodes := []) (fuel := 4000) ⟨lqX11, fa_cons (⟨⟨2, _, pcv_X11_340, rfl⟩, hh_X11_noPart_0⟩) (fa_cons (⟨pcs_X11_345, hh_hand_partOf⟩) (fa_cons (⟨⟨1, _, pcv_X11_349, rfl⟩, hh_X11_riskOf_0⟩) (fa_nil)))⟩ dtX11_risk (by decide +kernel)
abbrev cc_X11_mayWrite_1 : scC := (qX11_mayWrite, 1, [(0, 7)], [.inr (.inr (.inl [0])), .inr (.inr (.inl [7])), .inl (some 0, 0)], [], [(1, (0, 1), [], [], [])], [])
set_option maxRecDepth 20000 in
abbrev xx_X11_mayWrite_1 : scX := (Tm, invM, lnX11, [(256, 1, 0, cc_X11_has_0)], cc_X11_mayWrite_1)
set_option maxRecDepth 20000 in
theorem hh_X11_mayWrite_1 : scH Tm invM cc_X11_mayWrite_1 := scCheck_ok (X := xx_X11_mayWrite_1) (nodes := []) (fuel := 4000) ⟨lqX11, fa_cons (⟨pcs_X11_256, hh_X11_has_0⟩) (fa_nil)⟩ dtX11_mayWrite (by decide +kernel)
abbrev cc_X11_saved_1 : scC := (qX11_saved, 8, [(0, 0)], [.inr (.inr (.inl [0])), .inr (.inr (.inl [7])), .inl (some 0, 0)], [], [(1, (0, 2147483647), [], [], [])], [(5, 0, 160), (6, 0, 5)])
set_option maxRecDepth 20000 in
abbrev xx_X11_saved_1 : scX := (Tm, invM, lnX11, [(280, 0, 11, cc_X11_costIn_1), (293, 0, 11, cc_X11_costOf_1), (296, 0, 11, cc_X11_mayWrite_1)], cc_X11_saved_1)
set_option maxRecDepth 20000 in
theorem hh_X11_saved_1 : scH Tm invM cc_X11_saved_1 := scCheck_ok (X := xx_X11_saved_1) (nodes := []) (fuel := 4000) ⟨lqX11, fa_cons (⟨⟨4, _, pcv_X11_280, rfl⟩, hh_X11_costIn_1⟩) (fa_cons (⟨⟨2, _, pcv_X11_293, rfl⟩, hh_X11_costOf_1⟩) (fa_cons (⟨⟨2, _, pcv_X11_296, rfl⟩, hh_X11_mayWrite_1⟩) (fa_nil)))⟩ dtX11_saved (by decide +kernel)
abbrev cc_X11_hoursFor_1 : scC := (qX11_hoursFor, 2, [(0, 0)], [.inr (.inr (.inl [0])), .inr (.inr (.inl [7])), .inl (some 0, 0)], [], [(1, (0, 9), [], [], [])], [])
set_option maxRecDepth 20000 in
abbrev xx_X11_hoursFor_1 : scX := (Tm, invM, lnX11, [(283, 1, 0, cc_X11_hasPiece_1), (287, 0, 11, cc_X11_renewHours_0)], cc_X11_hoursFor_1)
set_option maxRecDepth 20000 in
theorem hh_X11_hoursFor_1 : scH Tm invM cc_X11_hoursFor_1 := scCheck_ok (X := xx_X11_hoursFor_1) (nodes := []) (fuel := 4000) ⟨lqX11, fa_cons (⟨pcs_X11_283, hh_X11_hasPiece_1⟩) (fa_cons (⟨⟨1, _, pcv_X11_287, rfl⟩, hh_X11_renewHours_0⟩) (fa_nil))⟩ dtX11_hoursFor (by decide +kernel)
abbrev cc_X11_saved_2 : scC := (qX11_saved, 8, [(0, 1)], [.inr (.inr (.inl [0])), .inr (.inr (.inl [7])), .inl (some 0, 0)], [], [(1, (0, 2147483647), [], [], [])], [(5, 0, 160), (6, 0, 5)])
set_option maxRecDepth 20000 in
abbrev xx_X11_saved_2 : scX := (Tm, invM, lnX11, [(280, 0, 11, cc_X11_costIn_1), (293, 0, 11, cc_X11_costOf_1), (296, 0, 11, cc_X11_mayWrite_1)], cc_X11_saved_2)
set_option maxRecDepth 20000 in
theorem hh_X11_saved_2 : scH Tm invM cc_X11_saved_2 := scCheck_ok (X := xx_X11_saved_2) (nodes := []) (fuel := 4000) ⟨lqX11, fa_cons (⟨⟨4, _, pcv_X11_280, rfl⟩, hh_X11_costIn_1⟩) (fa_cons (⟨⟨2, _, pcv_X11_293, rfl⟩, hh_X11_costOf_1⟩) (fa_cons (⟨⟨2, _, pcv_X11_296, rfl⟩, hh_X11_mayWrite_1⟩) (fa_nil)))⟩ dtX11_saved (by decide +kernel)
abbrev cc_X11_hoursFor_2 : scC := (qX11_hoursFor, 2, [(0, 1)], [.inr (.inr (.inl [0])), .inr (.inr (.inl [7])), .inl (some 0, 0)], [], [(1, (0, 9), [], [], [])], [])
set_option maxRecDepth 20000 in
abbrev xx_X11_hoursFor_2 : scX := (Tm, invM, lnX11, [(283, 1, 0, cc_X11_hasPiece_1), (287, 0, 11, cc_X11_renewHours_0)], cc_X11_hoursFor_2)
set_option maxRecDepth 20000 in
theorem hh_X11_hoursFor_2 : scH Tm invM cc_X11_hoursFor_2 := scCheck_ok (X := xx_X11_hoursFor_2) (nodes := []) (fuel := 4000) ⟨lqX11, fa_cons (⟨pcs_X11_283, hh_X11_hasPiece_1⟩) (fa_cons (⟨⟨1, _, pcv_X11_287, rfl⟩, hh_X11_renewHours_0⟩) (fa_nil))⟩ dtX11_hoursFor (by decide +kernel)
abbrev cc_X11_saved_3 : scC := (qX11_saved, 8, [(0, 2)], [.inr (.inr (.inl [0])), .inr (.inr (.inl [7])), .inl (some 0, 0)], [], [(1, (0, 2147483647), [], [], [])], [(5, 0, 160), (6, 0, 5)])
set_option maxRecDepth 20000 in
abbrev xx_X11_saved_3 : scX := (Tm, invM, lnX11, [(280, 0, 11, cc_X11_costIn_1), (293, 0, 11, cc_X11_costOf_1), (296, 0, 11, cc_X11_mayWrite_1)], cc_X11_saved_3)
set_option maxRecDepth 20000 in
theorem hh_X11_saved_3 : scH Tm invM cc_X11_saved_3 := scCheck_ok (X := xx_X11_saved_3) (nodes := []) (fuel := 4000) ⟨lqX11, fa_cons (⟨⟨4, _, pcv_X11_280, rfl⟩, hh_X11_costIn_1⟩) (fa_cons (⟨⟨2, _, pcv_X11_293, rfl⟩, hh_X11_costOf_1⟩) (fa_cons (⟨⟨2, _, pcv_X11_296, rfl⟩, hh_X11_mayWrite_1⟩) (fa_nil)))⟩ dtX11_saved (by decide +kernel)
abbrev cc_X11_hoursFor_3 : scC := (qX11_hoursFor, 2, [(0, 2)], [.inr (.inr (.inl [0])), .inr (.inr (.inl [7])), .inl (some 0, 0)], [], [(1, (0, 9), [], [], [])], [])
set_option maxRecDepth 20000 in
abbrev xx_X11_hoursFor_3 : scX := (Tm, invM, lnX11, [(283, 1, 0, cc_X11_hasPiece_1), (287, 0, 11, cc_X11_renewHours_0)], cc_X11_hoursFor_3)
set_option maxRecDepth 20000 in
theorem hh_X11_hoursFor_3 : scH Tm invM cc_X11_hoursFor_3 := scCheck_ok (X := xx_X11_hoursFor_3) (nodes := []) (fuel := 4000) ⟨lqX11, fa_cons (⟨pcs_X11_283, hh_X11_hasPiece_1⟩) (fa_cons (⟨⟨1, _, pcv_X11_287, rfl⟩, hh_X11_renewHours_0⟩) (fa_nil))⟩ dtX11_hoursFor (by decide +kernel)
abbrev cc_X11_saved_4 : scC := (qX11_saved, 8, [(0, 7)], [.inr (.inr (.inl [0])), .inr (.inr (.inl [7])), .inl (some 0, 0)], [], [(1, (0, 2147483647), [], [], [])], [(5, 0, 160), (6, 0, 5)])
set_option maxRecDepth 20000 in
abbrev xx_X11_saved_4 : scX := (Tm, invM, lnX11, [(280, 0, 11, cc_X11_costIn_1), (293, 0, 11, cc_X11_costOf_1), (296, 0, 11, cc_X11_mayWrite_1)], cc_X11_saved_4)
set_option maxRecDepth 20000 in
theorem hh_X11_saved_4 : scH Tm invM cc_X11_saved_4 := scCheck_ok (X := xx_X11_saved_4) (nodes := []) (fuel := 4000) ⟨lqX11, fa_cons (⟨⟨4, _, pcv_X11_280, rfl⟩, hh_X11_costIn_1⟩) (fa_cons (⟨⟨2, _, pcv_X11_293, rfl⟩, hh_X11_costOf_1⟩) (fa_cons (⟨⟨2, _, pcv_X11_296, rfl⟩, hh_X11_mayWrite_1⟩) (fa_nil)))⟩ dtX11_saved (by decide +kernel)
abbrev cc_X11_hoursFor_4 : scC := (qX11_hoursFor, 2, [(0, 7)], [.inr (.inr (.inl [0])), .inr (.inr (.inl [7])), .inl (some 0, 0)], [], [(1, (0, 9), [], [], [])], [])
set_option maxRecDepth 20000 in
abbrev xx_X11_hoursFor_4 : scX := (Tm, invM, lnX11, [(283, 1, 0, cc_X11_hasPiece_1), (287, 0, 11, cc_X11_renewHours_0)], cc_X11_hoursFor_4)
set_option maxRecDepth 20000 in
theorem hh_X11_hoursFor_4 : scH Tm invM cc_X11_hoursFor_4 := scCheck_ok (X := xx_X11_hoursFor_4) (nodes := []) (fuel := 4000) ⟨lqX11, fa_cons (⟨pcs_X11_283, hh_X11_hasPiece_1⟩) (fa_cons (⟨⟨1, _, pcv_X11_287, rfl⟩, hh_X11_renewHours_0⟩) (fa_nil))⟩ dtX11_hoursFor (by decide +kernel)
abbrev cc_X11_firstOf_0 : scC := (qX11_firstOf, 9, [(12, 12)], [.inr (.inr (.inl [0])), .inr (.inr (.inl [7])), .inl (some 0, 0)], [], [(1, ((-1), 7), [], [], [])], [(5, 0, 160), (6, 0, 5)])
set_option maxRecDepth 20000 in
abbrev xx_X11_firstOf_0 : scX := (Tm, invM, lnX11, [(290, 0, 11, cc_X11_hoursFor_1), (290, 0, 11, cc_X11_hoursFor_2), (290, 0, 11, cc_X11_hoursFor_3), (290, 0, 11, cc_X11_hoursFor_4), (355, 0, 11, cc_X11_saved_1), (355, 0, 11, cc_X11_saved_2), (355, 0, 11, cc_X11_saved_3), (355, 0, 11, cc_X11_saved_4)], cc_X11_firstOf_0)
set_option maxRecDepth 20000 in
theorem hh_X11_firstOf_0 : scH Tm invM cc_X11_firstOf_0 := scCheck_ok (X := xx_X11_firstOf_0) (nodes := [(5, ([(12, 12), ((-1), 7), (0, 8), (0, 8)], [some (.inr (.inr (.inl [0]))), some (.inr (.inr (.inl [7]))), some (.inl (some 0, 0)), some (.inl (some 1, 0)), some (.inl (some 2, 0))], [], [((4, 0), (some 3, 0))]), ([0, 0, (-2)], 16))]) (fuel := 4000) ⟨lqX11, fa_cons (⟨⟨2, _, pcv_X11_290, rfl⟩, hh_X11_hoursFor_1⟩) (fa_cons (⟨⟨2, _, pcv_X11_290, rfl⟩, hh_X11_hoursFor_2⟩) (fa_cons (⟨⟨2, _, pcv_X11_290, rfl⟩, hh_X11_hoursFor_3⟩) (fa_cons (⟨⟨2, _, pcv_X11_290, rfl⟩, hh_X11_hoursFor_4⟩) (fa_cons (⟨⟨2, _, pcv_X11_355, rfl⟩, hh_X11_saved_1⟩) (fa_cons (⟨⟨2, _, pcv_X11_355, rfl⟩, hh_X11_saved_2⟩) (fa_cons (⟨⟨2, _, pcv_X11_355, rfl⟩, hh_X11_saved_3⟩) (fa_cons (⟨⟨2, _, pcv_X11_355, rfl⟩, hh_X11_saved_4⟩) (fa_nil))))))))⟩ dtX11_firstOf (by decide +kernel)
abbrev cc_X11_first_0 : scC := (qX11_first, 10, [], [.inr (.inr (.inl [0]))], [], [(1, ((-1), 7), [], [], [])], [(0, 0, 1), (5, 0, 160), (6, 0, 5)])
set_option maxRecDepth 20000 in
abbrev xx_X11_first_0 : scX := (Tm, invM, lnX11, [(358, 0, 11, cc_X11_firstOf_0)], cc_X11_first_0)
set_option maxRecDepth 20000 in
theorem hh_X11_first_0 : scH Tm invM cc_X11_first_0 := scCheck_ok (X := xx_X11_first_0) (nodes := []) (fuel := 4000) ⟨lqX11, fa_cons (⟨⟨2, _, pcv_X11_358, rfl⟩, hh_X11_firstOf_0⟩) (fa_nil)⟩ dtX11_first (by decide +kernel)
abbrev cc_X11_lacking_0 : scC := (qX11_lacking, 1, [], [.inr (.inr (.inl [0]))], [], [(1, ((-2147483648), 2147483647), [], [], [])], [(0, 0, 1)])
set_option maxRecDepth 20000 in
abbrev xx_X11_lacking_0 : scX := (Tm, invM, lnX11, [(256, 1, 0, cc_X11_has_0), (283, 1, 0, cc_X11_hasPiece_1)], cc_X11_lacking_0)
set_option maxRecDepth 20000 in
theorem hh_X11_lacking_0 : scH Tm invM cc_X11_lacking_0 := scCheck_ok (X := xx_X11_lacking_0) (nodes := [(9, ([((-2147483648), 2147483647), (0, 8), (0, 0), ((-2147483648), 2147483647), (0, 8)], [some (.inr (.inr (.inl [0]))), some (.inl (some 0, 0)), some (.inl (some 1, 0))], [], [((0, 0), (some 2, 0)), ((7, 0), (some 3, 0)), ((4, 0), (some 4, 0))]), ([0, (-2)], 16))]) (fuel := 4000) ⟨lqX11, fa_cons (⟨pcs_X11_256, hh_X11_has_0⟩) (fa_cons (⟨pcs_X11_283, hh_X11_hasPiece_1⟩) (fa_nil))⟩ dtX11_lacking (by decide +kernel)
abbrev cc_X11_signed_0 : scC := (qX11_signed, 2, [], [.inr (.inr (.inl [0]))], [], [(1, ((-2147483648), 2147483647), [], [], [])], [(0, 0, 1)])
set_option maxRecDepth 20000 in
abbrev xx_X11_signed_0 : scX := (Tm, invM, lnX11, [(266, 0, 11, cc_X11_isByDead_1), (283, 1, 0, cc_X11_hasPiece_1)], cc_X11_signed_0)
set_option maxRecDepth 20000 in
theorem hh_X11_signed_0 : scH Tm invM cc_X11_signed_0 := scCheck_ok (X := xx_X11_signed_0) (nodes := [(9, ([((-2147483648), 2147483647), (0, 8), (0, 0), (0, 8)], [some (.inr (.inr (.inl [0]))), some (.inl (some 0, 0)), some (.inl (some 1, 0))], [], [((0, 0), (some 2, 0)), ((4, 0), (some 3, 0))]), ([0, (-2)], 16))]) (fuel := 4000) ⟨lqX11, fa_cons (⟨⟨2, _, pcv_X11_266, rfl⟩, hh_X11_isByDead_1⟩) (fa_cons (⟨pcs_X11_283, hh_X11_hasPiece_1⟩) (fa_nil))⟩ dtX11_signed (by decide +kernel)
abbrev cc_X11_in_7 : scC := (qX11_in, 0, [((-2147483648), 2147483647), (0, 0), (65, 65)], [.inl (some 0, 0), .inl (some 1, 0), .inl (some 2, 0)], [], [(1, (0, 0), [], [], []), (1, (1, 1), [], [(0, (0, 65))], [])], [])
set_option maxRecDepth 20000 in
abbrev xx_X11_in_7 : scX := (Tm, invM, lnX11, [], cc_X11_in_7)
set_option maxRecDepth 20000 in
theorem hh_X11_in_7 : scH Tm invM cc_X11_in_7 := scCheck_ok (X := xx_X11_in_7) (nodes := []) (fuel := 4000) ⟨lqX11, fa_nil⟩ dtX11_in (by decide +kernel)
abbrev cc_X11_stale_0 : scC := (qX11_stale, 7, [((-2147483648), 2147483647)], [.inr (.inr (.inl [0])), .inl (some 0, 0)], [], [(1, ((-2147483648), 2147483647), [], [], [])], [(0, 0, 1), (2, 1, 1), (5, 0, 160), (6, 0, 5)])
set_option maxRecDepth 20000 in
abbrev xx_X11_stale_0 : scX := (Tm, invM, lnX11, [(135, 1, 0, cc_X11_in_7), (177, 0, 11, cc_X11_bad_0), (177, 0, 11, cc_X11_bad_1), (283, 1, 0, cc_X11_hasPiece_1), (337, 0, 11, cc_X11_wrongOf_0)], cc_X11_stale_0)
set_option maxRecDepth 20000 in
theorem hh_X11_stale_0 : scH Tm invM cc_X11_stale_0 := scCheck_ok (X := xx_X11_stale_0) (nodes := [(35, ([(0, 65), ((-2147483648), 2147483647), (0, 8), (0, 0), (0, 8)], [some (.inr (.inr (.inl [0]))), some (.inl (some 0, 0)), some (.inl (some 1, 0)), some (.inl (some 2, 0))], [], [((0, 0), (some 3, 0)), ((4, 0), (some 4, 0))]), ([0, 0, (-2)], 16))]) (fuel := 4000) ⟨lqX11, fa_cons (⟨pcs_X11_135, hh_X11_in_7⟩) (fa_cons (⟨⟨3, _, pcv_X11_177, rfl⟩, hh_X11_bad_0⟩) (fa_cons (⟨⟨3, _, pcv_X11_177, rfl⟩, hh_X11_bad_1⟩) (fa_cons (⟨pcs_X11_283, hh_X11_hasPiece_1⟩) (fa_cons (⟨⟨1, _, pcv_X11_337, rfl⟩, hh_X11_wrongOf_0⟩) (fa_nil)))))⟩ dtX11_stale (by decide +kernel)
abbrev cc_X11_in_8 : scC := (qX11_in, 0, [((-2147483648), 2147483647), (1, 1), (3, 3)], [.inl (some 0, 0), .inl (some 1, 0), .inl (some 2, 0)], [], [(1, (0, 0), [], [], []), (1, (1, 1), [], [(0, (1, 3))], [])], [])
set_option maxRecDepth 20000 in
abbrev xx_X11_in_8 : scX := (Tm, invM, lnX11, [], cc_X11_in_8)
set_option maxRecDepth 20000 in
theorem hh_X11_in_8 : scH Tm invM cc_X11_in_8 := scCheck_ok (X := xx_X11_in_8) (nodes := []) (fuel := 4000) ⟨lqX11, fa_nil⟩ dtX11_in (by decide +kernel)
abbrev cc_X11_roomOf_0 : scC := (qX11_roomOf, 0, [(0, 12), (1, 12), (1, 12)], [.inl (some 0, 0), .inl (some 1, 0), .inl (some 2, 0)], [], [(1, (14, 2196), [], [], [])], [])
set_option maxRecDepth 20000 in
abbrev xx_X11_roomOf_0 : scX := (Tm, invM, lnX11, [], cc_X11_roomOf_0)
set_option maxRecDepth 20000 in
theorem hh_X11_roomOf_0 : scH Tm invM cc_X11_roomOf_0 := scCheck_ok (X := xx_X11_roomOf_0) (nodes := []) (fuel := 4000) ⟨lqX11, fa_nil⟩ dtX11_roomOf (by decide +kernel)
abbrev cc_X11_power_1 : scC := (qX11_power, 0, [((-2147483648), 2147483647)], [.inr (.inl ((-9223372036854775808), 9223372036854775807)), .inl (some 0, 0)], [], [(2, ((-9223372036854775808), 9223372036854775807), [], [], [])], [])
set_option maxRecDepth 20000 in
abbrev xx_X11_power_1 : scX := (Tm, invM, lnX11, [], cc_X11_power_1)
set_option maxRecDepth 20000 in
theorem hh_X11_power_1 : scH Tm invM cc_X11_power_1 := scCheck_ok (X := xx_X11_power_1) (nodes := [(5, ([((-2147483648), 2147483647), (0, 2147483647)], [some (.inr (.inl ((-9223372036854775808), 9223372036854775807))), none, some (.inl (some 0, 0)), some (.inr (.inl ((-9223372036854775808), 9223372036854775807))), none, some (.inl (some 1, 0))], [], []), ([0, (-2)], 4294967294))]) (fuel := 4000) ⟨lqX11, fa_nil⟩ dtX11_power (by decide +kernel)
abbrev cc_X11_yearsOf_1 : scC := (qX11_yearsOf, 0, [(0, 0), (0, 255)], [.inr (.inr (.inl [0])), .inl (some 0, 0), .inl (some 1, 0)], [], [(1, (0, 365), [], [], [])], [])
set_option maxRecDepth 20000 in
abbrev xx_X11_yearsOf_1 : scX := (Tm, invM, lnX11, [], cc_X11_yearsOf_1)
set_option maxRecDepth 20000 in
theorem hh_X11_yearsOf_1 : scH Tm invM cc_X11_yearsOf_1 := scCheck_ok (X := xx_X11_yearsOf_1) (nodes := []) (fuel := 4000) ⟨lqX11, fa_nil⟩ dtX11_yearsOf (by decide +kernel)
abbrev cc_X11_wrongIn_2 : scC := (qX11_wrongIn, 5, [(0, 0), (0, 255), (0, 255)], [.inr (.inr (.inl [0])), .inr (.inr (.inl [7])), .inl (some 0, 0), .inl (some 1, 0), .inl (some 2, 0)], [], [(1, (0, 64), [], [], [])], [(5, 0, 160), (6, 0, 5)])
set_option maxRecDepth 20000 in
abbrev xx_X11_wrongIn_2 : scX := (Tm, invM, lnX11, [(263, 0, 11, cc_X11_yearsOf_1), (266, 0, 11, cc_X11_isByDead_1), (270, 0, 11, cc_X11_changesOf_0), (273, 0, 11, cc_X11_wrongBy_0)], cc_X11_wrongIn_2)
set_option maxRecDepth 20000 in
theorem hh_X11_wrongIn_2 : scH Tm invM cc_X11_wrongIn_2 := scCheck_ok (X := xx_X11_wrongIn_2) (nodes := []) (fuel := 4000) ⟨lqX11, fa_cons (⟨⟨2, _, pcv_X11_263, rfl⟩, hh_X11_yearsOf_1⟩) (fa_cons (⟨⟨2, _, pcv_X11_266, rfl⟩, hh_X11_isByDead_1⟩) (fa_cons (⟨⟨3, _, pcv_X11_270, rfl⟩, hh_X11_changesOf_0⟩) (fa_cons (⟨⟨5, _, pcv_X11_273, rfl⟩, hh_X11_wrongBy_0⟩) (fa_nil))))⟩ dtX11_wrongIn (by decide +kernel)
abbrev cc_X11_costIn_2 : scC := (qX11_costIn, 6, [(0, 0), (0, 255), (0, 255)], [.inr (.inr (.inl [0])), .inr (.inr (.inl [7])), .inl (some 0, 0), .inl (some 1, 0), .inl (some 2, 0)], [], [(1, (0, 57024), [], [], [])], [(5, 0, 160), (6, 0, 5)])
set_option maxRecDepth 20000 in
abbrev xx_X11_costIn_2 : scX := (Tm, invM, lnX11, [(276, 0, 11, cc_X11_wrongIn_2)], cc_X11_costIn_2)
set_option maxRecDepth 20000 in
theorem hh_X11_costIn_2 : scH Tm invM cc_X11_costIn_2 := scCheck_ok (X := xx_X11_costIn_2) (nodes := []) (fuel := 4000) ⟨lqX11, fa_cons (⟨⟨4, _, pcv_X11_276, rfl⟩, hh_X11_wrongIn_2⟩) (fa_nil)⟩ dtX11_costIn (by decide +kernel)
abbrev cc_X11_wrongIn_3 : scC := (qX11_wrongIn, 5, [(0, 0), ((-1000), 200), (0, 255)], [.inr (.inr (.inl [0])), .inr (.inr (.inl [7])), .inl (some 0, 0), .inl (some 1, 0), .inl (some 2, 0)], [], [(1, (0, 64), [], [], [])], [(5, 0, 160), (6, 0, 5)])
set_option maxRecDepth 20000 in
abbrev xx_X11_wrongIn_3 : scX := (Tm, invM, lnX11, [(263, 0, 11, cc_X11_yearsOf_1), (266, 0, 11, cc_X11_isByDead_1), (270, 0, 11, cc_X11_changesOf_0), (273, 0, 11, cc_X11_wrongBy_0)], cc_X11_wrongIn_3)
set_option maxRecDepth 20000 in
theorem hh_X11_wrongIn_3 : scH Tm invM cc_X11_wrongIn_3 := scCheck_ok (X := xx_X11_wrongIn_3) (nodes := []) (fuel := 4000) ⟨lqX11, fa_cons (⟨⟨2, _, pcv_X11_263, rfl⟩, hh_X11_yearsOf_1⟩) (fa_cons (⟨⟨2, _, pcv_X11_266, rfl⟩, hh_X11_isByDead_1⟩) (fa_cons (⟨⟨3, _, pcv_X11_270, rfl⟩, hh_X11_changesOf_0⟩) (fa_cons (⟨⟨5, _, pcv_X11_273, rfl⟩, hh_X11_wrongBy_0⟩) (fa_nil))))⟩ dtX11_wrongIn (by decide +kernel)
abbrev cc_X11_costIn_3 : scC := (qX11_costIn, 6, [(0, 0), ((-1000), 200), (0, 255)], [.inr (.inr (.inl [0])), .inr (.inr (.inl [7])), .inl (some 0, 0), .inl (some 1, 0), .inl (some 2, 0)], [], [(1, (0, 57024), [], [], [])], [(5, 0, 160), (6, 0, 5)])
set_option maxRecDepth 20000 in
abbrev xx_X11_costIn_3 : scX := (Tm, invM, lnX11, [(276, 0, 11, cc_X11_wrongIn_3)], cc_X11_costIn_3)
set_option maxRecDepth 20000 in
theorem hh_X11_costIn_3 : scH Tm invM cc_X11_costIn_3 := scCheck_ok (X := xx_X11_costIn_3) (nodes := []) (fuel := 4000) ⟨lqX11, fa_cons (⟨⟨4, _, pcv_X11_276, rfl⟩, hh_X11_wrongIn_3⟩) (fa_nil)⟩ dtX11_costIn (by decide +kernel)
abbrev cc_X11_wrongIn_4 : scC := (qX11_wrongIn, 5, [(0, 0), ((-1000), 600), (0, 255)], [.inr (.inr (.inl [0])), .inr (.inr (.inl [7])), .inl (some 0, 0), .inl (some 1, 0), .inl (some 2, 0)], [], [(1, (0, 64), [], [], [])], [(5, 0, 160), (6, 0, 5)])
set_option maxRecDepth 20000 in
abbrev xx_X11_wrongIn_4 : scX := (Tm, invM, lnX11, [(263, 0, 11, cc_X11_yearsOf_1), (266, 0, 11, cc_X11_isByDead_1), (270, 0, 11, cc_X11_changesOf_0), (273, 0, 11, cc_X11_wrongBy_0)], cc_X11_wrongIn_4)
set_option maxRecDepth 20000 in
theorem hh_X11_wrongIn_4 : scH Tm invM cc_X11_wrongIn_4 := scCheck_ok (X := xx_X11_wrongIn_4) (nodes := []) (fuel := 4000) ⟨lqX11, fa_cons (⟨⟨2, _, pcv_X11_263, rfl⟩, hh_X11_yearsOf_1⟩) (fa_cons (⟨⟨2, _, pcv_X11_266, rfl⟩, hh_X11_isByDead_1⟩) (fa_cons (⟨⟨3, _, pcv_X11_270, rfl⟩, hh_X11_changesOf_0⟩) (fa_cons (⟨⟨5, _, pcv_X11_273, rfl⟩, hh_X11_wrongBy_0⟩) (fa_nil))))⟩ dtX11_wrongIn (by decide +kernel)
abbrev cc_X11_costIn_4 : scC := (qX11_costIn, 6, [(0, 0), ((-1000), 600), (0, 255)], [.inr (.inr (.inl [0])), .inr (.inr (.inl [7])), .inl (some 0, 0), .inl (some 1, 0), .inl (some 2, 0)], [], [(1, (0, 57024), [], [], [])], [(5, 0, 160), (6, 0, 5)])
set_option maxRecDepth 20000 in
abbrev xx_X11_costIn_4 : scX := (Tm, invM, lnX11, [(276, 0, 11, cc_X11_wrongIn_4)], cc_X11_costIn_4)
set_option maxRecDepth 20000 in
theorem hh_X11_costIn_4 : scH Tm invM cc_X11_costIn_4 := scCheck_ok (X := xx_X11_costIn_4) (nodes := []) (fuel := 4000) ⟨lqX11, fa_cons (⟨⟨4, _, pcv_X11_276, rfl⟩, hh_X11_wrongIn_4⟩) (fa_nil)⟩ dtX11_costIn (by decide +kernel)
abbrev cc_X11_isOption_0 : scC := (qX11_isOption, 7, [(0, 0), (1, 3), (0, 0)], [.inr (.inr (.inl [0])), .inl (some 0, 0), .inl (some 1, 0), .inl (some 2, 0)], [], [(1, (0, 1), [], [], [])], [(0, 43, 1), (5, 0, 160), (6, 0, 5), (13, 0, 3)])
set_option maxRecDepth 20000 in
abbrev xx_X11_isOption_0 : scX := (Tm, invM, lnX11, [(256, 1, 0, cc_X11_has_0), (280, 0, 11, cc_X11_costIn_2), (280, 0, 11, cc_X11_costIn_1), (280, 0, 11, cc_X11_costIn_3), (280, 0, 11, cc_X11_costIn_4), (287, 0, 11, cc_X11_renewHours_0), (365, 1, 0, cc_hand_power), (365, 1, 0, cc_X11_power_1)], cc_X11_isOption_0)
set_option maxRecDepth 20000 in
theorem hh_X11_isOption_0 : scH Tm invM cc_X11_isOption_0 := scCheck_ok (X := xx_X11_isOption_0) (nodes := [(28, ([(0, 0), (1, 3), (0, 0), ((-1000), 200), (0, 64), (0, 3), (0, 64), ((-1000), 200), (0, 9)], [some (.inr (.inr (.inl [0]))), some (.inl (some 0, 0)), some (.inl (some 1, 0)), some (.inl (some 2, 0)), some (.inl (some 3, 0)), some (.inl (some 4, 0)), some (.inl (some 5, 0)), none], [], [((35, 1), (some 6, 0)), ((7, 1), (some 7, 0)), ((13, 0), (some 8, 0))]), ([0, 0, 0, 0, 0, (-2)], 14)), (74, ([(0, 0), (1, 3), (0, 0), ((-1000), 600), (0, 64), (0, 3), ((-2147483648), 2147483647), (0, 64), ((-1000), 200), (0, 9), (0, 9), (0, 200)], [some (.inr (.inr (.inl [0]))), some (.inl (some 0, 0)), some (.inl (some 1, 0)), some (.inl (some 2, 0)), some (.inl (some 3, 0)), some (.inl (some 4, 0)), some (.inl (some 5, 0)), none], [], [((7, 0), (some 6, 0)), ((35, 1), (some 7, 0)), ((7, 1), (some 8, 0)), ((13, 0), (some 9, 0)), ((35, 3), (some 10, 0)), ((7, 10), (some 11, 0))]), ([0, 0, 0, 0, 0, (-2)], 6))]) (fuel := 4000) ⟨lqX11, fa_cons (⟨pcs_X11_256, hh_X11_has_0⟩) (fa_cons (⟨⟨4, _, pcv_X11_280, rfl⟩, hh_X11_costIn_2⟩) (fa_cons (⟨⟨4, _, pcv_X11_280, rfl⟩, hh_X11_costIn_1⟩) (fa_cons (⟨⟨4, _, pcv_X11_280, rfl⟩, hh_X11_costIn_3⟩) (fa_cons (⟨⟨4, _, pcv_X11_280, rfl⟩, hh_X11_costIn_4⟩) (fa_cons (⟨⟨1, _, pcv_X11_287, rfl⟩, hh_X11_renewHours_0⟩) (fa_cons (⟨pcs_X11_365, hh_hand_power⟩) (fa_cons (⟨pcs_X11_365, hh_X11_power_1⟩) (fa_nil))))))))⟩ dtX11_isOption (by decide +kernel)
abbrev cc_X11_isOption_1 : scC := (qX11_isOption, 7, [(0, 0), (1, 3), (0, 2147483647)], [.inr (.inr (.inl [0])), .inl (some 0, 0), .inl (some 1, 0), .inl (some 2, 0)], [], [(1, (0, 1), [], [], [])], [(0, 43, 1), (5, 0, 160), (6, 0, 5), (13, 0, 3)])
set_option maxRecDepth 20000 in
abbrev xx_X11_isOption_1 : scX := (Tm, invM, lnX11, [(256, 1, 0, cc_X11_has_0), (280, 0, 11, cc_X11_costIn_2), (280, 0, 11, cc_X11_costIn_1), (280, 0, 11, cc_X11_costIn_3), (280, 0, 11, cc_X11_costIn_4), (287, 0, 11, cc_X11_renewHours_0), (365, 1, 0, cc_hand_power), (365, 1, 0, cc_X11_power_1)], cc_X11_isOption_1)
set_option maxRecDepth 20000 in
theorem hh_X11_isOption_1 : scH Tm invM cc_X11_isOption_1 := scCheck_ok (X := xx_X11_isOption_1) (nodes := [(28, ([(0, 0), (1, 3), (0, 2147483647), ((-1000), 200), (0, 64), (0, 3), (0, 64), ((-1000), 200), (0, 9)], [some (.inr (.inr (.inl [0]))), some (.inl (some 0, 0)), some (.inl (some 1, 0)), some (.inl (some 2, 0)), some (.inl (some 3, 0)), some (.inl (some 4, 0)), some (.inl (some 5, 0)), none], [], [((35, 1), (some 6, 0)), ((7, 1), (some 7, 0)), ((13, 0), (some 8, 0))]), ([0, 0, 0, 0, 0, (-2)], 14)), (74, ([(0, 0), (1, 3), (0, 2147483647), ((-1000), 600), (0, 64), (0, 3), ((-2147483648), 2147483647), (0, 64), ((-1000), 200), (0, 9), (0, 9), (0, 200)], [some (.inr (.inr (.inl [0]))), some (.inl (some 0, 0)), some (.inl (some 1, 0)), some (.inl (some 2, 0)), some (.inl (some 3, 0)), some (.inl (some 4, 0)), some (.inl (some 5, 0)), none], [], [((7, 0), (some 6, 0)), ((35, 1), (some 7, 0)), ((7, 1), (some 8, 0)), ((13, 0), (some 9, 0)), ((35, 3), (some 10, 0)), ((7, 10), (some 11, 0))]), ([0, 0, 0, 0, 0, (-2)], 6))]) (fuel := 4000) ⟨lqX11, fa_cons (⟨pcs_X11_256, hh_X11_has_0⟩) (fa_cons (⟨⟨4, _, pcv_X11_280, rfl⟩, hh_X11_costIn_2⟩) (fa_cons (⟨⟨4, _, pcv_X11_280, rfl⟩, hh_X11_costIn_1⟩) (fa_cons (⟨⟨4, _, pcv_X11_280, rfl⟩, hh_X11_costIn_3⟩) (fa_cons (⟨⟨4, _, pcv_X11_280, rfl⟩, hh_X11_costIn_4⟩) (fa_cons (⟨⟨1, _, pcv_X11_287, rfl⟩, hh_X11_renewHours_0⟩) (fa_cons (⟨pcs_X11_365, hh_hand_power⟩) (fa_cons (⟨pcs_X11_365, hh_X11_power_1⟩) (fa_nil))))))))⟩ dtX11_isOption (by decide +kernel)
