abbrev cc_X11_yearsOf_2 : scC := (qX11_yearsOf, 0, [(0, 7), (0, 255)], [.inr (.inr (.inl [0])), .inl (some 0, 0), .inl (some 1, 0)], [], [(1, (0, 365), [], [], [])], [])
set_option maxRecDepth 20000 in
abbrev xx_X11_yearsOf_2 : scX := (Tm, invM, lnX11, [], cc_X11_yearsOf_2)
set_option maxRecDepth 20000 in
theorem hh_X11_yearsOf_2 : scH Tm invM cc_X11_yearsOf_2 := scCheck_ok (X := xx_X11_yearsOf_2) (nodes := []) (fuel := 4000) ⟨lqX11, fa_nil⟩ dtX11_yearsOf (by decide +kernel)
abbrev cc_X11_wrongIn_5 : scC := (qX11_wrongIn, 5, [(0, 7), (0, 255), (0, 255)], [.inr (.inr (.inl [0])), .inr (.inr (.inl [7])), .inl (some 0, 0), .inl (some 1, 0), .inl (some 2, 0)], [], [(1, (0, 64), [], [], [])], [(5, 0, 160), (6, 0, 5)])
set_option maxRecDepth 20000 in
abbrev xx_X11_wrongIn_5 : scX := (Tm, invM, lnX11, [(263, 0, 11, cc_X11_yearsOf_2), (266, 0, 11, cc_X11_isByDead_1), (270, 0, 11, cc_X11_changesOf_0), (273, 0, 11, cc_X11_wrongBy_0)], cc_X11_wrongIn_5)
set_option maxRecDepth 20000 in
theorem hh_X11_wrongIn_5 : scH Tm invM cc_X11_wrongIn_5 := scCheck_ok (X := xx_X11_wrongIn_5) (nodes := []) (fuel := 4000) ⟨lqX11, fa_cons (⟨⟨2, _, pcv_X11_263, rfl⟩, hh_X11_yearsOf_2⟩) (fa_cons (⟨⟨2, _, pcv_X11_266, rfl⟩, hh_X11_isByDead_1⟩) (fa_cons (⟨⟨3, _, pcv_X11_270, rfl⟩, hh_X11_changesOf_0⟩) (fa_cons (⟨⟨5, _, pcv_X11_273, rfl⟩, hh_X11_wrongBy_0⟩) (fa_nil))))⟩ dtX11_wrongIn (by decide +kernel)
abbrev cc_X11_costIn_5 : scC := (qX11_costIn, 6, [(0, 7), (0, 255), (0, 255)], [.inr (.inr (.inl [0])), .inr (.inr (.inl [7])), .inl (some 0, 0), .inl (some 1, 0), .inl (some 2, 0)], [], [(1, (0, 57024), [], [], [])], [(5, 0, 160), (6, 0, 5)])
set_option maxRecDepth 20000 in
abbrev xx_X11_costIn_5 : scX := (Tm, invM, lnX11, [(276, 0, 11, cc_X11_wrongIn_5)], cc_X11_costIn_5)
set_option maxRecDepth 20000 in
theorem hh_X11_costIn_5 : scH Tm invM cc_X11_costIn_5 := scCheck_ok (X := xx_X11_costIn_5) (nodes := []) (fuel := 4000) ⟨lqX11, fa_cons (⟨⟨4, _, pcv_X11_276, rfl⟩, hh_X11_wrongIn_5⟩) (fa_nil)⟩ dtX11_costIn (by decide +kernel)
abbrev cc_X11_wrongIn_6 : scC := (qX11_wrongIn, 5, [(0, 7), ((-1000), 200), (0, 255)], [.inr (.inr (.inl [0])), .inr (.inr (.inl [7])), .inl (some 0, 0), .inl (some 1, 0), .inl (some 2, 0)], [], [(1, (0, 64), [], [], [])], [(5, 0, 160), (6, 0, 5)])
set_option maxRecDepth 20000 in
abbrev xx_X11_wrongIn_6 : scX := (Tm, invM, lnX11, [(263, 0, 11, cc_X11_yearsOf_2), (266, 0, 11, cc_X11_isByDead_1), (270, 0, 11, cc_X11_changesOf_0), (273, 0, 11, cc_X11_wrongBy_0)], cc_X11_wrongIn_6)
set_option maxRecDepth 20000 in
theorem hh_X11_wrongIn_6 : scH Tm invM cc_X11_wrongIn_6 := scCheck_ok (X := xx_X11_wrongIn_6) (nodes := []) (fuel := 4000) ⟨lqX11, fa_cons (⟨⟨2, _, pcv_X11_263, rfl⟩, hh_X11_yearsOf_2⟩) (fa_cons (⟨⟨2, _, pcv_X11_266, rfl⟩, hh_X11_isByDead_1⟩) (fa_cons (⟨⟨3, _, pcv_X11_270, rfl⟩, hh_X11_changesOf_0⟩) (fa_cons (⟨⟨5, _, pcv_X11_273, rfl⟩, hh_X11_wrongBy_0⟩) (fa_nil))))⟩ dtX11_wrongIn (by decide +kernel)
abbrev cc_X11_costIn_6 : scC := (qX11_costIn, 6, [(0, 7), ((-1000), 200), (0, 255)], [.inr (.inr (.inl [0])), .inr (.inr (.inl [7])), .inl (some 0, 0), .inl (some 1, 0), .inl (some 2, 0)], [], [(1, (0, 57024), [], [], [])], [(5, 0, 160), (6, 0, 5)])
set_option maxRecDepth 20000 in
abbrev xx_X11_costIn_6 : scX := (Tm, invM, lnX11, [(276, 0, 11, cc_X11_wrongIn_6)], cc_X11_costIn_6)
set_option maxRecDepth 20000 in
theorem hh_X11_costIn_6 : scH Tm invM cc_X11_costIn_6 := scCheck_ok (X := xx_X11_costIn_6) (nodes := []) (fuel := 4000) ⟨lqX11, fa_cons (⟨⟨4, _, pcv_X11_276, rfl⟩, hh_X11_wrongIn_6⟩) (fa_nil)⟩ dtX11_costIn (by decide +kernel)
abbrev cc_X11_wrongIn_7 : scC := (qX11_wrongIn, 5, [(0, 7), ((-1000), 600), (0, 255)], [.inr (.inr (.inl [0])), .inr (.inr (.inl [7])), .inl (some 0, 0), .inl (some 1, 0), .inl (some 2, 0)], [], [(1, (0, 64), [], [], [])], [(5, 0, 160), (6, 0, 5)])
set_option maxRecDepth 20000 in
abbrev xx_X11_wrongIn_7 : scX := (Tm, invM, lnX11, [(263, 0, 11, cc_X11_yearsOf_2), (266, 0, 11, cc_X11_isByDead_1), (270, 0, 11, cc_X11_changesOf_0), (273, 0, 11, cc_X11_wrongBy_0)], cc_X11_wrongIn_7)
set_option maxRecDepth 20000 in
theorem hh_X11_wrongIn_7 : scH Tm invM cc_X11_wrongIn_7 := scCheck_ok (X := xx_X11_wrongIn_7) (nodes := []) (fuel := 4000) ⟨lqX11, fa_cons (⟨⟨2, _, pcv_X11_263, rfl⟩, hh_X11_yearsOf_2⟩) (fa_cons (⟨⟨2, _, pcv_X11_266, rfl⟩, hh_X11_isByDead_1⟩) (fa_cons (⟨⟨3, _, pcv_X11_270, rfl⟩, hh_X11_changesOf_0⟩) (fa_cons (⟨⟨5, _, pcv_X11_273, rfl⟩, hh_X11_wrongBy_0⟩) (fa_nil))))⟩ dtX11_wrongIn (by decide +kernel)
abbrev cc_X11_costIn_7 : scC := (qX11_costIn, 6, [(0, 7), ((-1000), 600), (0, 255)], [.inr (.inr (.inl [0])), .inr (.inr (.inl [7])), .inl (some 0, 0), .inl (some 1, 0), .inl (some 2, 0)], [], [(1, (0, 57024), [], [], [])], [(5, 0, 160), (6, 0, 5)])
set_option maxRecDepth 20000 in
abbrev xx_X11_costIn_7 : scX := (Tm, invM, lnX11, [(276, 0, 11, cc_X11_wrongIn_7)], cc_X11_costIn_7)
set_option maxRecDepth 20000 in
theorem hh_X11_costIn_7 : scH Tm invM cc_X11_costIn_7 := scCheck_ok (X := xx_X11_costIn_7) (nodes := []) (fuel := 4000) ⟨lqX11, fa_cons (⟨⟨4, _, pcv_X11_276, rfl⟩, hh_X11_wrongIn_7⟩) (fa_nil)⟩ dtX11_costIn (by decide +kernel)
abbrev cc_X11_isOption_2 : scC := (qX11_isOption, 7, [(0, 7), (1, 3), (0, 2147483647)], [.inr (.inr (.inl [0])), .inl (some 0, 0), .inl (some 1, 0), .inl (some 2, 0)], [], [(1, (0, 1), [], [], [])], [(0, 43, 1), (5, 0, 160), (6, 0, 5), (13, 0, 3)])
set_option maxRecDepth 20000 in
abbrev xx_X11_isOption_2 : scX := (Tm, invM, lnX11, [(256, 1, 0, cc_X11_has_0), (280, 0, 11, cc_X11_costIn_5), (280, 0, 11, cc_X11_costIn_1), (280, 0, 11, cc_X11_costIn_6), (280, 0, 11, cc_X11_costIn_7), (287, 0, 11, cc_X11_renewHours_0), (365, 1, 0, cc_hand_power), (365, 1, 0, cc_X11_power_1)], cc_X11_isOption_2)
set_option maxRecDepth 20000 in
theorem hh_X11_isOption_2 : scH Tm invM cc_X11_isOption_2 := scCheck_ok (X := xx_X11_isOption_2) (nodes := [(28, ([(0, 7), (1, 3), (0, 2147483647), ((-1000), 200), (0, 64), (0, 3), (0, 9)], [some (.inr (.inr (.inl [0]))), some (.inl (some 0, 0)), some (.inl (some 1, 0)), some (.inl (some 2, 0)), some (.inl (some 3, 0)), some (.inl (some 4, 0)), some (.inl (some 5, 0)), none], [], [((13, 0), (some 6, 0))]), ([0, 0, 0, 0, 0, (-2)], 14)), (74, ([(0, 7), (1, 3), (0, 2147483647), ((-1000), 600), (0, 64), (0, 3), ((-2147483648), 2147483647), (0, 9), (0, 200)], [some (.inr (.inr (.inl [0]))), some (.inl (some 0, 0)), some (.inl (some 1, 0)), some (.inl (some 2, 0)), some (.inl (some 3, 0)), some (.inl (some 4, 0)), some (.inl (some 5, 0)), none], [], [((7, 0), (some 6, 0)), ((13, 0), (some 7, 0)), ((7, 10), (some 8, 0))]), ([0, 0, 0, 0, 0, (-2)], 6))]) (fuel := 4000) ⟨lqX11, fa_cons (⟨pcs_X11_256, hh_X11_has_0⟩) (fa_cons (⟨⟨4, _, pcv_X11_280, rfl⟩, hh_X11_costIn_5⟩) (fa_cons (⟨⟨4, _, pcv_X11_280, rfl⟩, hh_X11_costIn_1⟩) (fa_cons (⟨⟨4, _, pcv_X11_280, rfl⟩, hh_X11_costIn_6⟩) (fa_cons (⟨⟨4, _, pcv_X11_280, rfl⟩, hh_X11_costIn_7⟩) (fa_cons (⟨⟨1, _, pcv_X11_287, rfl⟩, hh_X11_renewHours_0⟩) (fa_cons (⟨pcs_X11_365, hh_hand_power⟩) (fa_cons (⟨pcs_X11_365, hh_X11_power_1⟩) (fa_nil))))))))⟩ dtX11_isOption (by decide +kernel)
abbrev cc_X11_laysBest_0 : scC := (qX11_laysBest, 8, [(1, 3)], [.inr (.inr (.inl [0])), .inl (some 0, 0)], [], [(1, (14, 2196), [], [], [])], [(0, 43, 1), (5, 0, 160), (6, 0, 5), (9, 0, 2197), (10, 0, 2197), (11, 0, 2197), (12, 0, 2197), (13, 0, 3)])
set_option maxRecDepth 20000 in
abbrev xx_X11_laysBest_0 : scX := (Tm, invM, lnX11, [(369, 1, 0, cc_X11_roomOf_0), (374, 0, 11, cc_X11_isOption_0), (374, 0, 11, cc_X11_isOption_1), (374, 0, 11, cc_X11_isOption_2), (377, 0, 11, cc_hand_laysOption)], cc_X11_laysBest_0)
set_option maxRecDepth 20000 in
theorem hh_X11_laysBest_0 : scH Tm invM cc_X11_laysBest_0 := scCheck_ok (X := xx_X11_laysBest_0) (nodes := [(2, ([(1, 3), (0, 2197)], [some (.inr (.inr (.inl [0]))), some (.inl (some 0, 0)), some (.inl (some 1, 0)), none], [], []), ([0, (-2)], 38654789204)), (31, ([(1, 3), (0, 8), (0, 8)], [some (.inr (.inr (.inl [0]))), some (.inl (some 0, 0)), some (.inl (some 1, 0)), none], [], [((4, 0), (some 2, 0))]), ([0, (-4294976090)], 38654784808)), (43, ([(1, 3), (0, 7), (0, 2197), (1, 8)], [some (.inr (.inr (.inl [0]))), some (.inl (some 0, 0)), some (.inl (some 1, 0)), some (.inl (some 2, 0))], [], [((4, 0), (some 3, 0))]), ([0, (-4294976090), (-2)], 38654784806)), (67, ([(1, 3), (0, 7), (0, 2147483647), (1, 8)], [some (.inr (.inr (.inl [0]))), some (.inl (some 0, 0)), some (.inl (some 1, 0)), some (.inl (some 2, 0))], [], [((4, 0), (some 3, 0))]), ([0, (-4294976090), (-2)], 38654780410)), (98, ([(1, 3), (0, 7), (0, 2197), (1, 8)], [some (.inr (.inr (.inl [0]))), some (.inl (some 0, 0)), some (.inl (some 1, 0)), some (.inl (some 2, 0))], [], [((4, 0), (some 3, 0))]), ([0, (-4294976090), (-2)], 34359813114))]) (fuel := 4000) ⟨lqX11, fa_cons (⟨pcs_X11_369, hh_X11_roomOf_0⟩) (fa_cons (⟨⟨3, _, pcv_X11_374, rfl⟩, hh_X11_isOption_0⟩) (fa_cons (⟨⟨3, _, pcv_X11_374, rfl⟩, hh_X11_isOption_1⟩) (fa_cons (⟨⟨3, _, pcv_X11_374, rfl⟩, hh_X11_isOption_2⟩) (fa_cons (⟨⟨2, _, pcv_X11_377, rfl⟩, hh_hand_laysOption⟩) (fa_nil)))))⟩ dtX11_laysBest (by decide +kernel)
abbrev cc_X11_best_0 : scC := (qX11_best, 9, [((-2147483648), 2147483647), ((-2147483648), 2147483647)], [.inr (.inr (.inl [0])), .inl (some 0, 0), .inl (some 1, 0)], [], [(2, ((-9223372036854775808), 9223372036854775807), [], [], [])], [(0, 0, 1), (0, 43, 1), (2, 1, 1), (5, 0, 160), (6, 0, 5), (9, 0, 2197), (10, 0, 2197), (11, 0, 2197), (12, 0, 2197), (13, 0, 3)])
set_option maxRecDepth 20000 in
abbrev xx_X11_best_0 : scX := (Tm, invM, lnX11, [(135, 1, 0, cc_X11_in_8), (177, 0, 11, cc_X11_bad_0), (177, 0, 11, cc_X11_bad_1), (340, 0, 11, cc_X11_noPart_0), (345, 1, 0, cc_hand_partOf), (365, 1, 0, cc_hand_power), (380, 0, 11, cc_X11_laysBest_0)], cc_X11_best_0)
set_option maxRecDepth 20000 in
theorem hh_X11_best_0 : scH Tm invM cc_X11_best_0 := scCheck_ok (X := xx_X11_best_0) (nodes := []) (fuel := 4000) ⟨lqX11, fa_cons (⟨pcs_X11_135, hh_X11_in_8⟩) (fa_cons (⟨⟨3, _, pcv_X11_177, rfl⟩, hh_X11_bad_0⟩) (fa_cons (⟨⟨3, _, pcv_X11_177, rfl⟩, hh_X11_bad_1⟩) (fa_cons (⟨⟨2, _, pcv_X11_340, rfl⟩, hh_X11_noPart_0⟩) (fa_cons (⟨pcs_X11_345, hh_hand_partOf⟩) (fa_cons (⟨pcs_X11_365, hh_hand_power⟩) (fa_cons (⟨⟨1, _, pcv_X11_380, rfl⟩, hh_X11_laysBest_0⟩) (fa_nil)))))))⟩ dtX11_best (by decide +kernel)
abbrev cc_X11_in_9 : scC := (qX11_in, 0, [((-2147483648), 2147483647), (0, 0), (0, 2)], [.inl (some 0, 0), .inl (some 1, 0), .inl (some 2, 0)], [], [(1, (0, 0), [], [], []), (1, (1, 1), [], [(0, (0, 2))], [])], [])
set_option maxRecDepth 20000 in
abbrev xx_X11_in_9 : scX := (Tm, invM, lnX11, [], cc_X11_in_9)
set_option maxRecDepth 20000 in
theorem hh_X11_in_9 : scH Tm invM cc_X11_in_9 := scCheck_ok (X := xx_X11_in_9) (nodes := []) (fuel := 4000) ⟨lqX11, fa_nil⟩ dtX11_in (by decide +kernel)
abbrev cc_X11_bestIn_0 : scC := (qX11_bestIn, 9, [((-2147483648), 2147483647), ((-2147483648), 2147483647)], [.inr (.inr (.inl [0])), .inl (some 0, 0), .inl (some 1, 0)], [], [(1, ((-2147483648), 2147483647), [], [], [])], [(0, 0, 1), (0, 43, 1), (2, 1, 1), (5, 0, 160), (6, 0, 5), (9, 0, 2197), (10, 0, 2197), (11, 0, 2197), (12, 0, 2197), (13, 0, 3)])
set_option maxRecDepth 20000 in
abbrev xx_X11_bestIn_0 : scX := (Tm, invM, lnX11, [(135, 1, 0, cc_X11_in_8), (135, 1, 0, cc_X11_in_9), (177, 0, 11, cc_X11_bad_0), (177, 0, 11, cc_X11_bad_1), (380, 0, 11, cc_X11_laysBest_0)], cc_X11_bestIn_0)
set_option maxRecDepth 20000 in
theorem hh_X11_bestIn_0 : scH Tm invM cc_X11_bestIn_0 := scCheck_ok (X := xx_X11_bestIn_0) (nodes := []) (fuel := 4000) ⟨lqX11, fa_cons (⟨pcs_X11_135, hh_X11_in_8⟩) (fa_cons (⟨pcs_X11_135, hh_X11_in_9⟩) (fa_cons (⟨⟨3, _, pcv_X11_177, rfl⟩, hh_X11_bad_0⟩) (fa_cons (⟨⟨3, _, pcv_X11_177, rfl⟩, hh_X11_bad_1⟩) (fa_cons (⟨⟨1, _, pcv_X11_380, rfl⟩, hh_X11_laysBest_0⟩) (fa_nil)))))⟩ dtX11_bestIn (by decide +kernel)
abbrev cc_X11_in_10 : scC := (qX11_in, 0, [((-2147483648), 2147483647), (0, 0), (999, 999)], [.inl (some 0, 0), .inl (some 1, 0), .inl (some 2, 0)], [], [(1, (0, 0), [], [], []), (1, (1, 1), [], [(0, (0, 999))], [])], [])
set_option maxRecDepth 20000 in
abbrev xx_X11_in_10 : scX := (Tm, invM, lnX11, [], cc_X11_in_10)
set_option maxRecDepth 20000 in
theorem hh_X11_in_10 : scH Tm invM cc_X11_in_10 := scCheck_ok (X := xx_X11_in_10) (nodes := []) (fuel := 4000) ⟨lqX11, fa_nil⟩ dtX11_in (by decide +kernel)
abbrev cc_X11_oftenBy_0 : scC := (qX11_oftenBy, 5, [(0, 7), ((-2147483648), 2147483647), (0, 7)], [.inr (.inr (.inl [0])), .inl (some 0, 0), .inl (some 1, 0), .inl (some 2, 0)], [], [(2, ((-9223372036854775808), 9223372036854775807), [], [], [])], [(5, 0, 160), (6, 0, 5)])
set_option maxRecDepth 20000 in
abbrev xx_X11_oftenBy_0 : scX := (Tm, invM, lnX11, [(263, 0, 11, cc_X11_yearsOf_0), (266, 0, 11, cc_X11_isByDead_1), (273, 0, 11, cc_X11_wrongBy_0), (287, 0, 11, cc_X11_renewHours_0)], cc_X11_oftenBy_0)
set_option maxRecDepth 20000 in
theorem hh_X11_oftenBy_0 : scH Tm invM cc_X11_oftenBy_0 := scCheck_ok (X := xx_X11_oftenBy_0) (nodes := [(18, ([(0, 7), ((-2147483648), 2147483647), (0, 7), (0, 7), (0, 200), (0, 9)], [some (.inr (.inr (.inl [0]))), some (.inl (some 0, 0)), some (.inl (some 1, 0)), some (.inl (some 2, 0)), some (.inr (.inl ((-9223372036854775808), 9223372036854775807))), none, some (.inl (some 3, 0))], [], [((7, 10), (some 4, 0)), ((4, 4), (some 5, 0))]), ([0, 0, 0, (-2)], 14))]) (fuel := 4000) ⟨lqX11, fa_cons (⟨⟨2, _, pcv_X11_263, rfl⟩, hh_X11_yearsOf_0⟩) (fa_cons (⟨⟨2, _, pcv_X11_266, rfl⟩, hh_X11_isByDead_1⟩) (fa_cons (⟨⟨5, _, pcv_X11_273, rfl⟩, hh_X11_wrongBy_0⟩) (fa_cons (⟨⟨1, _, pcv_X11_287, rfl⟩, hh_X11_renewHours_0⟩) (fa_nil))))⟩ dtX11_oftenBy (by decide +kernel)
abbrev cc_X11_oftenBy_1 : scC := (qX11_oftenBy, 5, [(0, 7), ((-2147483648), 2147483647), ((-2147483648), 2147483647)], [.inr (.inr (.inl [0])), .inl (some 0, 0), .inl (some 1, 0), .inl (some 2, 0)], [], [(2, ((-9223372036854775808), 9223372036854775807), [], [], [])], [(5, 0, 160), (6, 0, 5)])
set_option maxRecDepth 20000 in
abbrev xx_X11_oftenBy_1 : scX := (Tm, invM, lnX11, [(263, 0, 11, cc_X11_yearsOf_0), (266, 0, 11, cc_X11_isByDead_1), (273, 0, 11, cc_X11_wrongBy_0), (287, 0, 11, cc_X11_renewHours_0)], cc_X11_oftenBy_1)
set_option maxRecDepth 20000 in
theorem hh_X11_oftenBy_1 : scH Tm invM cc_X11_oftenBy_1 := scCheck_ok (X := xx_X11_oftenBy_1) (nodes := [(18, ([(0, 7), ((-2147483648), 2147483647), ((-2147483648), 2147483647), (0, 2147483647), (0, 200), (0, 9)], [some (.inr (.inr (.inl [0]))), some (.inl (some 0, 0)), some (.inl (some 1, 0)), some (.inl (some 2, 0)), some (.inr (.inl ((-9223372036854775808), 9223372036854775807))), none, some (.inl (some 3, 0))], [], [((7, 10), (some 4, 0)), ((4, 4), (some 5, 0))]), ([0, 0, 0, (-2)], 4294967294))]) (fuel := 4000) ⟨lqX11, fa_cons (⟨⟨2, _, pcv_X11_263, rfl⟩, hh_X11_yearsOf_0⟩) (fa_cons (⟨⟨2, _, pcv_X11_266, rfl⟩, hh_X11_isByDead_1⟩) (fa_cons (⟨⟨5, _, pcv_X11_273, rfl⟩, hh_X11_wrongBy_0⟩) (fa_cons (⟨⟨1, _, pcv_X11_287, rfl⟩, hh_X11_renewHours_0⟩) (fa_nil))))⟩ dtX11_oftenBy (by decide +kernel)
abbrev cc_X11_often_0 : scC := (qX11_often, 6, [((-2147483648), 2147483647), ((-2147483648), 2147483647)], [.inr (.inr (.inl [0])), .inl (some 0, 0), .inl (some 1, 0)], [], [(1, (0, 2147483647), [], [], [])], [(0, 0, 1), (2, 0, 2), (5, 0, 160), (6, 0, 5)])
set_option maxRecDepth 20000 in
abbrev xx_X11_often_0 : scX := (Tm, invM, lnX11, [(135, 1, 0, cc_X11_in_10), (177, 0, 11, cc_X11_bad_2), (177, 0, 11, cc_X11_bad_5), (177, 0, 11, cc_X11_bad_3), (177, 0, 11, cc_X11_bad_4), (331, 0, 11, cc_X11_isLife_0), (385, 0, 11, cc_X11_oftenBy_0), (385, 0, 11, cc_X11_oftenBy_1)], cc_X11_often_0)
set_option maxRecDepth 20000 in
theorem hh_X11_often_0 : scH Tm invM cc_X11_often_0 := scCheck_ok (X := xx_X11_often_0) (nodes := [(59, ([(0, 7), (0, 999), (1, 2147483647), (2, 31), (0, 0)], [some (.inr (.inr (.inl [0]))), some (.inl (some 0, 0)), some (.inl (some 1, 0)), some (.inl (some 2, 0)), some (.inl (some 3, 0))], [], [((0, 0), (some 4, 0))]), ([0, 0, 0, (-2)], 62))]) (fuel := 4000) ⟨lqX11, fa_cons (⟨pcs_X11_135, hh_X11_in_10⟩) (fa_cons (⟨⟨3, _, pcv_X11_177, rfl⟩, hh_X11_bad_2⟩) (fa_cons (⟨⟨3, _, pcv_X11_177, rfl⟩, hh_X11_bad_5⟩) (fa_cons (⟨⟨3, _, pcv_X11_177, rfl⟩, hh_X11_bad_3⟩) (fa_cons (⟨⟨3, _, pcv_X11_177, rfl⟩, hh_X11_bad_4⟩) (fa_cons (⟨⟨1, _, pcv_X11_331, rfl⟩, hh_X11_isLife_0⟩) (fa_cons (⟨⟨3, _, pcv_X11_385, rfl⟩, hh_X11_oftenBy_0⟩) (fa_cons (⟨⟨3, _, pcv_X11_385, rfl⟩, hh_X11_oftenBy_1⟩) (fa_nil))))))))⟩ dtX11_often (by decide +kernel)
abbrev cc_X11_in_11 : scC := (qX11_in, 0, [((-2147483648), 2147483647), (1, 1), (30, 30)], [.inl (some 0, 0), .inl (some 1, 0), .inl (some 2, 0)], [], [(1, (0, 0), [], [], []), (1, (1, 1), [], [(0, (1, 30))], [])], [])
set_option maxRecDepth 20000 in
abbrev xx_X11_in_11 : scX := (Tm, invM, lnX11, [], cc_X11_in_11)
set_option maxRecDepth 20000 in
theorem hh_X11_in_11 : scH Tm invM cc_X11_in_11 := scCheck_ok (X := xx_X11_in_11) (nodes := []) (fuel := 4000) ⟨lqX11, fa_nil⟩ dtX11_in (by decide +kernel)
abbrev cc_X11_yearly_0 : scC := (qX11_yearly, 6, [((-2147483648), 2147483647), ((-2147483648), 2147483647), ((-2147483648), 2147483647), ((-2147483648), 2147483647)], [.inr (.inr (.inl [0])), .inl (some 0, 0), .inl (some 1, 0), .inl (some 2, 0), .inl (some 3, 0)], [], [(2, ((-9223372036854775808), 9223372036854775807), [], [], [])], [(0, 0, 1), (2, 0, 2), (5, 0, 160), (6, 0, 5)])
set_option maxRecDepth 20000 in
abbrev xx_X11_yearly_0 : scX := (Tm, invM, lnX11, [(135, 1, 0, cc_X11_in_10), (135, 1, 0, cc_X11_in_11), (177, 0, 11, cc_X11_bad_2), (177, 0, 11, cc_X11_bad_5), (177, 0, 11, cc_X11_bad_3), (177, 0, 11, cc_X11_bad_4), (331, 0, 11, cc_X11_isLife_0), (340, 0, 11, cc_X11_noPart_1), (345, 1, 0, cc_hand_partOf), (385, 0, 11, cc_X11_oftenBy_1)], cc_X11_yearly_0)
set_option maxRecDepth 20000 in
theorem hh_X11_yearly_0 : scH Tm invM cc_X11_yearly_0 := scCheck_ok (X := xx_X11_yearly_0) (nodes := []) (fuel := 4000) ⟨lqX11, fa_cons (⟨pcs_X11_135, hh_X11_in_10⟩) (fa_cons (⟨pcs_X11_135, hh_X11_in_11⟩) (fa_cons (⟨⟨3, _, pcv_X11_177, rfl⟩, hh_X11_bad_2⟩) (fa_cons (⟨⟨3, _, pcv_X11_177, rfl⟩, hh_X11_bad_5⟩) (fa_cons (⟨⟨3, _, pcv_X11_177, rfl⟩, hh_X11_bad_3⟩) (fa_cons (⟨⟨3, _, pcv_X11_177, rfl⟩, hh_X11_bad_4⟩) (fa_cons (⟨⟨1, _, pcv_X11_331, rfl⟩, hh_X11_isLife_0⟩) (fa_cons (⟨⟨2, _, pcv_X11_340, rfl⟩, hh_X11_noPart_1⟩) (fa_cons (⟨pcs_X11_345, hh_hand_partOf⟩) (fa_cons (⟨⟨3, _, pcv_X11_385, rfl⟩, hh_X11_oftenBy_1⟩) (fa_nil))))))))))⟩ dtX11_yearly (by decide +kernel)
abbrev cc_X11_in_12 : scC := (qX11_in, 0, [((-2147483648), 2147483647), (0, 0), (16, 16)], [.inl (some 0, 0), .inl (some 1, 0), .inl (some 2, 0)], [], [(1, (0, 0), [], [], []), (1, (1, 1), [], [(0, (0, 16))], [])], [])
set_option maxRecDepth 20000 in
abbrev xx_X11_in_12 : scX := (Tm, invM, lnX11, [], cc_X11_in_12)
set_option maxRecDepth 20000 in
theorem hh_X11_in_12 : scH Tm invM cc_X11_in_12 := scCheck_ok (X := xx_X11_in_12) (nodes := []) (fuel := 4000) ⟨lqX11, fa_nil⟩ dtX11_in (by decide +kernel)
abbrev cc_X11_isRumour_0 : scC := (qX11_isRumour, 1, [((-2147483648), 2147483647), ((-2147483648), 2147483647), ((-2147483648), 2147483647), ((-2147483648), 2147483647)], [.inl (some 0, 0), .inl (some 1, 0), .inl (some 2, 0), .inl (some 3, 0)], [], [(1, (0, 0), [], [], []), (1, (1, 1), [], [(0, (0, 16)), (1, (0, 999)), (2, (0, 999)), (3, (0, 999))], [])], [])
set_option maxRecDepth 20000 in
abbrev xx_X11_isRumour_0 : scX := (Tm, invM, lnX11, [(135, 1, 0, cc_X11_in_12), (135, 1, 0, cc_X11_in_10)], cc_X11_isRumour_0)
set_option maxRecDepth 20000 in
theorem hh_X11_isRumour_0 : scH Tm invM cc_X11_isRumour_0 := scCheck_ok (X := xx_X11_isRumour_0) (nodes := []) (fuel := 4000) ⟨lqX11, fa_cons (⟨pcs_X11_135, hh_X11_in_12⟩) (fa_cons (⟨pcs_X11_135, hh_X11_in_10⟩) (fa_nil))⟩ dtX11_isRumour (by decide +kernel)
abbrev cc_X11_in_13 : scC := (qX11_in, 0, [((-2147483648), 2147483647), (0, 0), (2, 2)], [.inl (some 0, 0), .inl (some 1, 0), .inl (some 2, 0)], [], [(1, (0, 0), [], [], []), (1, (1, 1), [], [(0, (0, 2))], [])], [])
set_option maxRecDepth 20000 in
abbrev xx_X11_in_13 : scX := (Tm, invM, lnX11, [], cc_X11_in_13)
set_option maxRecDepth 20000 in
theorem hh_X11_in_13 : scH Tm invM cc_X11_in_13 := scCheck_ok (X := xx_X11_in_13) (nodes := []) (fuel := 4000) ⟨lqX11, fa_nil⟩ dtX11_in (by decide +kernel)
abbrev cc_X11_bringsBy_0 : scC := (qX11_bringsBy, 0, [(0, 16), (0, 16), (0, 999), (0, 999), (0, 999), (0, 2)], [.inl (some 0, 0), .inl (some 1, 0), .inl (some 2, 0), .inl (some 3, 0), .inl (some 4, 0), .inl (some 5, 0)], [], [(1, ((-2147483648), 2147483647), [], [], [])], [])
set_option maxRecDepth 20000 in
abbrev xx_X11_bringsBy_0 : scX := (Tm, invM, lnX11, [], cc_X11_bringsBy_0)
set_option maxRecDepth 20000 in
theorem hh_X11_bringsBy_0 : scH Tm invM cc_X11_bringsBy_0 := scCheck_ok (X := xx_X11_bringsBy_0) (nodes := []) (fuel := 4000) ⟨lqX11, fa_nil⟩ dtX11_bringsBy (by decide +kernel)
abbrev cc_X11_brings_0 : scC := (qX11_brings, 2, [((-2147483648), 2147483647), ((-2147483648), 2147483647), ((-2147483648), 2147483647), ((-2147483648), 2147483647), ((-2147483648), 2147483647), ((-2147483648), 2147483647)], [.inr (.inr (.inl [0])), .inl (some 0, 0), .inl (some 1, 0), .inl (some 2, 0), .inl (some 3, 0), .inl (some 4, 0), .inl (some 5, 0)], [], [(1, ((-2147483648), 2147483647), [], [], [])], [(0, 0, 1), (2, 1, 1)])
set_option maxRecDepth 20000 in
abbrev xx_X11_brings_0 : scX := (Tm, invM, lnX11, [(135, 1, 0, cc_X11_in_12), (135, 1, 0, cc_X11_in_13), (177, 0, 11, cc_X11_bad_0), (177, 0, 11, cc_X11_bad_1), (389, 1, 0, cc_X11_isRumour_0), (393, 1, 0, cc_X11_bringsBy_0)], cc_X11_brings_0)
set_option maxRecDepth 20000 in
theorem hh_X11_brings_0 : scH Tm invM cc_X11_brings_0 := scCheck_ok (X := xx_X11_brings_0) (nodes := []) (fuel := 4000) ⟨lqX11, fa_cons (⟨pcs_X11_135, hh_X11_in_12⟩) (fa_cons (⟨pcs_X11_135, hh_X11_in_13⟩) (fa_cons (⟨⟨3, _, pcv_X11_177, rfl⟩, hh_X11_bad_0⟩) (fa_cons (⟨⟨3, _, pcv_X11_177, rfl⟩, hh_X11_bad_1⟩) (fa_cons (⟨pcs_X11_389, hh_X11_isRumour_0⟩) (fa_cons (⟨pcs_X11_393, hh_X11_bringsBy_0⟩) (fa_nil))))))⟩ dtX11_brings (by decide +kernel)
abbrev cc_X11_saysBy_0 : scC := (qX11_saysBy, 1, [(0, 16), (0, 16), (0, 999), (0, 999), (0, 999)], [.inl (some 0, 0), .inl (some 1, 0), .inl (some 2, 0), .inl (some 3, 0), .inl (some 4, 0)], [], [(1, (0, 2), [], [], [])], [])
set_option maxRecDepth 20000 in
abbrev xx_X11_saysBy_0 : scX := (Tm, invM, lnX11, [(393, 1, 0, cc_X11_bringsBy_0)], cc_X11_saysBy_0)
set_option maxRecDepth 20000 in
theorem hh_X11_saysBy_0 : scH Tm invM cc_X11_saysBy_0 := scCheck_ok (X := xx_X11_saysBy_0) (nodes := [(6, ([(0, 16), (0, 16), (0, 999), (0, 999), (0, 999), (0, 2), (1, 3)], [some (.inl (some 0, 0)), some (.inl (some 1, 0)), some (.inl (some 2, 0)), some (.inl (some 3, 0)), some (.inl (some 4, 0)), some (.inl (some 5, 0)), some (.inl (some 6, 0))], [], []), ([0, 0, 0, 0, 0, 0, (-2)], 6))]) (fuel := 4000) ⟨lqX11, fa_cons (⟨pcs_X11_393, hh_X11_bringsBy_0⟩) (fa_nil)⟩ dtX11_saysBy (by decide +kernel)
abbrev cc_X11_says_0 : scC := (qX11_says, 2, [((-2147483648), 2147483647), ((-2147483648), 2147483647), ((-2147483648), 2147483647), ((-2147483648), 2147483647), ((-2147483648), 2147483647)], [.inr (.inr (.inl [0])), .inl (some 0, 0), .inl (some 1, 0), .inl (some 2, 0), .inl (some 3, 0), .inl (some 4, 0)], [], [(1, (0, 2), [], [], [])], [(0, 0, 1), (2, 1, 1)])
set_option maxRecDepth 20000 in
abbrev xx_X11_says_0 : scX := (Tm, invM, lnX11, [(135, 1, 0, cc_X11_in_12), (177, 0, 11, cc_X11_bad_0), (177, 0, 11, cc_X11_bad_1), (389, 1, 0, cc_X11_isRumour_0), (397, 1, 0, cc_X11_saysBy_0)], cc_X11_says_0)
set_option maxRecDepth 20000 in
theorem hh_X11_says_0 : scH Tm invM cc_X11_says_0 := scCheck_ok (X := xx_X11_says_0) (nodes := []) (fuel := 4000) ⟨lqX11, fa_cons (⟨pcs_X11_135, hh_X11_in_12⟩) (fa_cons (⟨⟨3, _, pcv_X11_177, rfl⟩, hh_X11_bad_0⟩) (fa_cons (⟨⟨3, _, pcv_X11_177, rfl⟩, hh_X11_bad_1⟩) (fa_cons (⟨pcs_X11_389, hh_X11_isRumour_0⟩) (fa_cons (⟨pcs_X11_397, hh_X11_saysBy_0⟩) (fa_nil)))))⟩ dtX11_says (by decide +kernel)
abbrev cc_X11_line_0 : scC := (qX11_line, 2, [((-2147483648), 2147483647), ((-2147483648), 2147483647), ((-2147483648), 2147483647), ((-2147483648), 2147483647)], [.inr (.inr (.inl [0])), .inl (some 0, 0), .inl (some 1, 0), .inl (some 2, 0), .inl (some 3, 0)], [], [(1, ((-1), 16), [], [], [])], [(0, 0, 1), (2, 1, 1)])
set_option maxRecDepth 20000 in
abbrev xx_X11_line_0 : scX := (Tm, invM, lnX11, [(177, 0, 11, cc_X11_bad_0), (177, 0, 11, cc_X11_bad_1), (389, 1, 0, cc_X11_isRumour_0), (397, 1, 0, cc_X11_saysBy_0)], cc_X11_line_0)
set_option maxRecDepth 20000 in
theorem hh_X11_line_0 : scH Tm invM cc_X11_line_0 := scCheck_ok (X := xx_X11_line_0) (nodes := [(35, ([(0, 16), (0, 999), (0, 999), (0, 999), (0, 17), (0, 0)], [some (.inr (.inr (.inl [0]))), some (.inl (some 0, 0)), some (.inl (some 1, 0)), some (.inl (some 2, 0)), some (.inl (some 3, 0)), some (.inl (some 4, 0))], [], [((0, 0), (some 5, 0))]), ([0, 0, 0, 0, (-2)], 34))]) (fuel := 4000) ⟨lqX11, fa_cons (⟨⟨3, _, pcv_X11_177, rfl⟩, hh_X11_bad_0⟩) (fa_cons (⟨⟨3, _, pcv_X11_177, rfl⟩, hh_X11_bad_1⟩) (fa_cons (⟨pcs_X11_389, hh_X11_isRumour_0⟩) (fa_cons (⟨pcs_X11_397, hh_X11_saysBy_0⟩) (fa_nil))))⟩ dtX11_line (by decide +kernel)
abbrev cc_X11_in_14 : scC := (qX11_in, 0, [((-2147483648), 2147483647), (0, 0), ((-2147483648), 2147483647)], [.inl (some 0, 0), .inl (some 1, 0), .inl (some 2, 0)], [], [(1, (0, 0), [], [], []), (1, (1, 1), [], [(0, (0, 2147483647)), (2, (0, 2147483647))], [])], [])
set_option maxRecDepth 20000 in
abbrev xx_X11_in_14 : scX := (Tm, invM, lnX11, [], cc_X11_in_14)
set_option maxRecDepth 20000 in
theorem hh_X11_in_14 : scH Tm invM cc_X11_in_14 := scCheck_ok (X := xx_X11_in_14) (nodes := []) (fuel := 4000) ⟨lqX11, fa_nil⟩ dtX11_in (by decide +kernel)
abbrev cc_X11_areLives_0 : scC := (qX11_areLives, 1, [((-2147483648), 2147483647)], [.inr (.inr (.inl [0])), .inl (some 0, 0)], [], [(1, (0, 0), [], [], []), (1, (1, 1), [], [(0, (0, 2147483647))], [])], [])
set_option maxRecDepth 20000 in
abbrev xx_X11_areLives_0 : scX := (Tm, invM, lnX11, [(135, 1, 0, cc_X11_in_14)], cc_X11_areLives_0)
set_option maxRecDepth 20000 in
theorem hh_X11_areLives_0 : scH Tm invM cc_X11_areLives_0 := scCheck_ok (X := xx_X11_areLives_0) (nodes := []) (fuel := 4000) ⟨lqX11, fa_cons (⟨pcs_X11_135, hh_X11_in_14⟩) (fa_nil)⟩ dtX11_areLives (by decide +kernel)
abbrev cc_X11_rooms_0 : scC := (qX11_rooms, 0, [((-2147483648), 2147483647), ((-2147483648), 2147483647), ((-2147483648), 2147483647)], [.inr (.inr (.inl [0])), .inl (none, 8), .inl (some 0, 0), .inl (some 1, 0), .inl (some 2, 0)], [((4, 0), (none, 8))], [(0, (0, 0), [], [], [])], [(0, 46, 1), (15, 0, 8)])
set_option maxRecDepth 20000 in
abbrev xx_X11_rooms_0 : scX := (Tm, invM, lnX11, [], cc_X11_rooms_0)
set_option maxRecDepth 20000 in
theorem hh_X11_rooms_0 : scH Tm invM cc_X11_rooms_0 := scCheck_ok (X := xx_X11_rooms_0) (nodes := [(29, ([(8, 8), ((-2147483648), 2147483647), ((-2147483648), 2147483647), ((-2147483647), 2147483647), (0, 8), ((-2147483647), 2147483647), (8, 8), (0, 99), (0, 99)], [some (.inr (.inr (.inl [0]))), some (.inl (some 0, 0)), some (.inl (some 1, 0)), some (.inl (some 2, 0)), some (.inl (some 3, 0)), some (.inl (some 4, 0))], [], [((0, 46), (some 5, 0)), ((4, 0), (some 6, 0)), ((15, 0), (some 7, 0)), ((14, 0), (some 8, 0))]), ([0, 0, 0, 0, (-2)], 16))]) (fuel := 4000) ⟨lqX11, fa_nil⟩ dtX11_rooms (by decide +kernel)
abbrev cc_X11_rooms_1 : scC := (qX11_rooms, 1, [((-2147483648), 2147483647), ((-2147483648), 2147483647), ((-2147483648), 2147483647), (7, 8)], [.inr (.inr (.inl [0])), .inl (none, 7), .inl (some 0, 0), .inl (some 1, 0), .inl (some 2, 0)], [((4, 0), (some 3, 0))], [(0, (0, 0), [], [], [])], [(0, 46, 1), (14, 7, 1), (15, 0, 8)])
set_option maxRecDepth 20000 in
abbrev xx_X11_rooms_1 : scX := (Tm, invM, lnX11, [(256, 1, 0, cc_X11_has_0), (403, 0, 11, cc_X11_rooms_0)], cc_X11_rooms_1)
set_option maxRecDepth 20000 in
theorem hh_X11_rooms_1 : scH Tm invM cc_X11_rooms_1 := scCheck_ok (X := xx_X11_rooms_1) (nodes := [(29, ([(7, 7), ((-2147483648), 2147483647), ((-2147483648), 2147483647), ((-2147483647), 2147483647), (0, 8), ((-2147483647), 2147483647), (7, 7), (0, 99), (0, 99)], [some (.inr (.inr (.inl [0]))), some (.inl (some 0, 0)), some (.inl (some 1, 0)), some (.inl (some 2, 0)), some (.inl (some 3, 0)), some (.inl (some 4, 0))], [], [((0, 46), (some 5, 0)), ((4, 0), (some 6, 0)), ((15, 0), (some 7, 0)), ((14, 0), (some 8, 0))]), ([0, 0, 0, 0, (-2)], 16))]) (fuel := 4000) ⟨lqX11, fa_cons (⟨pcs_X11_256, hh_X11_has_0⟩) (fa_cons (⟨⟨4, _, pcv_X11_403, rfl⟩, hh_X11_rooms_0⟩) (fa_nil))⟩ dtX11_rooms (by decide +kernel)
abbrev cc_X11_rooms_2 : scC := (qX11_rooms, 2, [((-2147483648), 2147483647), ((-2147483648), 2147483647), ((-2147483648), 2147483647), (6, 8)], [.inr (.inr (.inl [0])), .inl (none, 6), .inl (some 0, 0), .inl (some 1, 0), .inl (some 2, 0)], [((4, 0), (some 3, 0))], [(0, (0, 0), [], [], [])], [(0, 46, 1), (14, 6, 2), (15, 0, 8)])
set_option maxRecDepth 20000 in
abbrev xx_X11_rooms_2 : scX := (Tm, invM, lnX11, [(256, 1, 0, cc_X11_has_0), (403, 0, 11, cc_X11_rooms_1)], cc_X11_rooms_2)
set_option maxRecDepth 20000 in
theorem hh_X11_rooms_2 : scH Tm invM cc_X11_rooms_2 := scCheck_ok (X := xx_X11_rooms_2) (nodes := [(29, ([(6, 6), ((-2147483648), 2147483647), ((-2147483648), 2147483647), ((-2147483647), 2147483647), (0, 8), ((-2147483647), 2147483647), (6, 6), (0, 99), (0, 99)], [some (.inr (.inr (.inl [0]))), some (.inl (some 0, 0)), some (.inl (some 1, 0)), some (.inl (some 2, 0)), some (.inl (some 3, 0)), some (.inl (some 4, 0))], [], [((0, 46), (some 5, 0)), ((4, 0), (some 6, 0)), ((15, 0), (some 7, 0)), ((14, 0), (some 8, 0))]), ([0, 0, 0, 0, (-2)], 16))]) (fuel := 4000) ⟨lqX11, fa_cons (⟨pcs_X11_256, hh_X11_has_0⟩) (fa_cons (⟨⟨4, _, pcv_X11_403, rfl⟩, hh_X11_rooms_1⟩) (fa_nil))⟩ dtX11_rooms (by decide +kernel)
abbrev cc_X11_rooms_3 : scC := (qX11_rooms, 3, [((-2147483648), 2147483647), ((-2147483648), 2147483647), ((-2147483648), 2147483647), (5, 8)], [.inr (.inr (.inl [0])), .inl (none, 5), .inl (some 0, 0), .inl (some 1, 0), .inl (some 2, 0)], [((4, 0), (some 3, 0))], [(0, (0, 0), [], [], [])], [(0, 46, 1), (14, 5, 3), (15, 0, 8)])
set_option maxRecDepth 20000 in
abbrev xx_X11_rooms_3 : scX := (Tm, invM, lnX11, [(256, 1, 0, cc_X11_has_0), (403, 0, 11, cc_X11_rooms_2)], cc_X11_rooms_3)
set_option maxRecDepth 20000 in
theorem hh_X11_rooms_3 : scH Tm invM cc_X11_rooms_3 := scCheck_ok (X := xx_X11_rooms_3) (nodes := [(29, ([(5, 5), ((-2147483648), 2147483647), ((-2147483648), 2147483647), ((-2147483647), 2147483647), (0, 8), ((-2147483647), 2147483647), (5, 5), (0, 99), (0, 99)], [some (.inr (.inr (.inl [0]))), some (.inl (some 0, 0)), some (.inl (some 1, 0)), some (.inl (some 2, 0)), some (.inl (some 3, 0)), some (.inl (some 4, 0))], [], [((0, 46), (some 5, 0)), ((4, 0), (some 6, 0)), ((15, 0), (some 7, 0)), ((14, 0), (some 8, 0))]), ([0, 0, 0, 0, (-2)], 16))]) (fuel := 4000) ⟨lqX11, fa_cons (⟨pcs_X11_256, hh_X11_has_0⟩) (fa_cons (⟨⟨4, _, pcv_X11_403, rfl⟩, hh_X11_rooms_2⟩) (fa_nil))⟩ dtX11_rooms (by decide +kernel)
abbrev cc_X11_rooms_4 : scC := (qX11_rooms, 4, [((-2147483648), 2147483647), ((-2147483648), 2147483647), ((-2147483648), 2147483647), (4, 8)], [.inr (.inr (.inl [0])), .inl (none, 4), .inl (some 0, 0), .inl (some 1, 0), .inl (some 2, 0)], [((4, 0), (some 3, 0))], [(0, (0, 0), [], [], [])], [(0, 46, 1), (14, 4, 4), (15, 0, 8)])
set_option maxRecDepth 20000 in
abbrev xx_X11_rooms_4 : scX := (Tm, invM, lnX11, [(256, 1, 0, cc_X11_has_0), (403, 0, 11, cc_X11_rooms_3)], cc_X11_rooms_4)
set_option maxRecDepth 20000 in
theorem hh_X11_rooms_4 : scH Tm invM cc_X11_rooms_4 := scCheck_ok (X := xx_X11_rooms_4) (nodes := [(29, ([(4, 4), ((-2147483648), 2147483647), ((-2147483648), 2147483647), ((-2147483647), 2147483647), (0, 8), ((-2147483647), 2147483647), (4, 4), (0, 99), (0, 99)], [some (.inr (.inr (.inl [0]))), some (.inl (some 0, 0)), some (.inl (some 1, 0)), some (.inl (some 2, 0)), some (.inl (some 3, 0)), some (.inl (some 4, 0))], [], [((0, 46), (some 5, 0)), ((4, 0), (some 6, 0)), ((15, 0), (some 7, 0)), ((14, 0), (some 8, 0))]), ([0, 0, 0, 0, (-2)], 16))]) (fuel := 4000) ⟨lqX11, fa_cons (⟨pcs_X11_256, hh_X11_has_0⟩) (fa_cons (⟨⟨4, _, pcv_X11_403, rfl⟩, hh_X11_rooms_3⟩) (fa_nil))⟩ dtX11_rooms (by decide +kernel)
abbrev cc_X11_rooms_5 : scC := (qX11_rooms, 5, [((-2147483648), 2147483647), ((-2147483648), 2147483647), ((-2147483648), 2147483647), (3, 8)], [.inr (.inr (.inl [0])), .inl (none, 3), .inl (some 0, 0), .inl (some 1, 0), .inl (some 2, 0)], [((4, 0), (some 3, 0))], [(0, (0, 0), [], [], [])], [(0, 46, 1), (14, 3, 5), (15, 0, 8)])
set_option maxRecDepth 20000 in
abbrev xx_X11_rooms_5 : scX := (Tm, invM, lnX11, [(256, 1, 0, cc_X11_has_0), (403, 0, 11, cc_X11_rooms_4)], cc_X11_rooms_5)
set_option maxRecDepth 20000 in
theorem hh_X11_rooms_5 : scH Tm invM cc_X11_rooms_5 := scCheck_ok (X := xx_X11_rooms_5) (nodes := [(29, ([(3, 3), ((-2147483648), 2147483647), ((-2147483648), 2147483647), ((-2147483647), 2147483647), (0, 8), ((-2147483647), 2147483647), (3, 3), (0, 99), (0, 99)], [some (.inr (.inr (.inl [0]))), some (.inl (some 0, 0)), some (.inl (some 1, 0)), some (.inl (some 2, 0)), some (.inl (some 3, 0)), some (.inl (some 4, 0))], [], [((0, 46), (some 5, 0)), ((4, 0), (some 6, 0)), ((15, 0), (some 7, 0)), ((14, 0), (some 8, 0))]), ([0, 0, 0, 0, (-2)], 16))]) (fuel := 4000) ⟨lqX11, fa_cons (⟨pcs_X11_256, hh_X11_has_0⟩) (fa_cons (⟨⟨4, _, pcv_X11_403, rfl⟩, hh_X11_rooms_4⟩) (fa_nil))⟩ dtX11_rooms (by decide +kernel)
abbrev cc_X11_rooms_6 : scC := (qX11_rooms, 6, [((-2147483648), 2147483647), ((-2147483648), 2147483647), ((-2147483648), 2147483647), (2, 8)], [.inr (.inr (.inl [0])), .inl (none, 2), .inl (some 0, 0), .inl (some 1, 0), .inl (some 2, 0)], [((4, 0), (some 3, 0))], [(0, (0, 0), [], [], [])], [(0, 46, 1), (14, 2, 6), (15, 0, 8)])
set_option maxRecDepth 20000 in
abbrev xx_X11_rooms_6 : scX := (Tm, invM, lnX11, [(256, 1, 0, cc_X11_has_0), (403, 0, 11, cc_X11_rooms_5)], cc_X11_rooms_6)
set_option maxRecDepth 20000 in
theorem hh_X11_rooms_6 : scH Tm invM cc_X11_rooms_6 := scCheck_ok (X := xx_X11_rooms_6) (nodes := [(29, ([(2, 2), ((-2147483648), 2147483647), ((-2147483648), 2147483647), ((-2147483647), 2147483647), (0, 8), ((-2147483647), 2147483647), (2, 2), (0, 99), (0, 99)], [some (.inr (.inr (.inl [0]))), some (.inl (some 0, 0)), some (.inl (some 1, 0)), some (.inl (some 2, 0)), some (.inl (some 3, 0)), some (.inl (some 4, 0))], [], [((0, 46), (some 5, 0)), ((4, 0), (some 6, 0)), ((15, 0), (some 7, 0)), ((14, 0), (some 8, 0))]), ([0, 0, 0, 0, (-2)], 16))]) (fuel := 4000) ⟨lqX11, fa_cons (⟨pcs_X11_256, hh_X11_has_0⟩) (fa_cons (⟨⟨4, _, pcv_X11_403, rfl⟩, hh_X11_rooms_5⟩) (fa_nil))⟩ dtX11_rooms (by decide +kernel)
abbrev cc_X11_rooms_7 : scC := (qX11_rooms, 7, [((-2147483648), 2147483647), ((-2147483648), 2147483647), ((-2147483648), 2147483647), (1, 8)], [.inr (.inr (.inl [0])), .inl (none, 1), .inl (some 0, 0), .inl (some 1, 0), .inl (some 2, 0)], [((4, 0), (some 3, 0))], [(0, (0, 0), [], [], [])], [(0, 46, 1), (14, 1, 7), (15, 0, 8)])
set_option maxRecDepth 20000 in
abbrev xx_X11_rooms_7 : scX := (Tm, invM, lnX11, [(256, 1, 0, cc_X11_has_0), (403, 0, 11, cc_X11_rooms_6)], cc_X11_rooms_7)
set_option maxRecDepth 20000 in
theorem hh_X11_rooms_7 : scH Tm invM cc_X11_rooms_7 := scCheck_ok (X := xx_X11_rooms_7) (nodes := [(29, ([(1, 1), ((-2147483648), 2147483647), ((-2147483648), 2147483647), ((-2147483647), 2147483647), (0, 8), ((-2147483647), 2147483647), (1, 1), (0, 99), (0, 99)], [some (.inr (.inr (.inl [0]))), some (.inl (some 0, 0)), some (.inl (some 1, 0)), some (.inl (some 2, 0)), some (.inl (some 3, 0)), some (.inl (some 4, 0))], [], [((0, 46), (some 5, 0)), ((4, 0), (some 6, 0)), ((15, 0), (some 7, 0)), ((14, 0), (some 8, 0))]), ([0, 0, 0, 0, (-2)], 16))]) (fuel := 4000) ⟨lqX11, fa_cons (⟨pcs_X11_256, hh_X11_has_0⟩) (fa_cons (⟨⟨4, _, pcv_X11_403, rfl⟩, hh_X11_rooms_6⟩) (fa_nil))⟩ dtX11_rooms (by decide +kernel)
abbrev cc_X11_rooms_8 : scC := (qX11_rooms, 8, [((-2147483648), 2147483647), ((-2147483648), 2147483647), ((-2147483648), 2147483647), (0, 8)], [.inr (.inr (.inl [0])), .inl (none, 0), .inl (some 0, 0), .inl (some 1, 0), .inl (some 2, 0)], [((4, 0), (some 3, 0))], [(0, (0, 0), [], [], [])], [(0, 46, 1), (14, 0, 8), (15, 0, 8)])
set_option maxRecDepth 20000 in
abbrev xx_X11_rooms_8 : scX := (Tm, invM, lnX11, [(256, 1, 0, cc_X11_has_0), (403, 0, 11, cc_X11_rooms_7)], cc_X11_rooms_8)
set_option maxRecDepth 20000 in
theorem hh_X11_rooms_8 : scH Tm invM cc_X11_rooms_8 := scCheck_ok (X := xx_X11_rooms_8) (nodes := [(29, ([(0, 0), ((-2147483648), 2147483647), ((-2147483648), 2147483647), ((-2147483647), 2147483647), (0, 8), ((-2147483647), 2147483647), (0, 0), (0, 99), (0, 99)], [some (.inr (.inr (.inl [0]))), some (.inl (some 0, 0)), some (.inl (some 1, 0)), some (.inl (some 2, 0)), some (.inl (some 3, 0)), some (.inl (some 4, 0))], [], [((0, 46), (some 5, 0)), ((4, 0), (some 6, 0)), ((15, 0), (some 7, 0)), ((14, 0), (some 8, 0))]), ([0, 0, 0, 0, (-2)], 16))]) (fuel := 4000) ⟨lqX11, fa_cons (⟨pcs_X11_256, hh_X11_has_0⟩) (fa_cons (⟨⟨4, _, pcv_X11_403, rfl⟩, hh_X11_rooms_7⟩) (fa_nil))⟩ dtX11_rooms (by decide +kernel)
abbrev cc_X11_laysRoom_0 : scC := (qX11_laysRoom, 9, [((-2147483648), 2147483647), ((-2147483648), 2147483647)], [.inr (.inr (.inl [0])), .inl (some 0, 0), .inl (some 1, 0)], [], [(0, (0, 0), [], [], [])], [(0, 46, 1), (14, 0, 8), (15, 0, 8)])
set_option maxRecDepth 20000 in
abbrev xx_X11_laysRoom_0 : scX := (Tm, invM, lnX11, [(403, 0, 11, cc_X11_rooms_8)], cc_X11_laysRoom_0)
set_option maxRecDepth 20000 in
theorem hh_X11_laysRoom_0 : scH Tm invM cc_X11_laysRoom_0 := scCheck_ok (X := xx_X11_laysRoom_0) (nodes := [(7, ([((-2147483648), 2147483647), ((-2147483648), 2147483647), (0, 8), ((-1), (-1)), (0, 99)], [some (.inr (.inr (.inl [0]))), some (.inl (some 0, 0)), some (.inl (some 1, 0)), some (.inl (some 2, 0))], [], [((0, 46), (some 3, 0)), ((14, 0), (some 4, 0))]), ([0, 0, (-2)], 16))]) (fuel := 4000) ⟨lqX11, fa_cons (⟨⟨4, _, pcv_X11_403, rfl⟩, hh_X11_rooms_8⟩) (fa_nil)⟩ dtX11_laysRoom (by decide +kernel)
abbrev cc_X11_room_0 : scC := (qX11_room, 10, [((-2147483648), 2147483647), ((-2147483648), 2147483647)], [.inr (.inr (.inl [0])), .inl (some 0, 0), .inl (some 1, 0)], [], [(1, ((-2147483648), 2147483647), [], [], [])], [(0, 0, 1), (0, 46, 1), (2, 1, 1), (14, 0, 8), (15, 0, 8)])
set_option maxRecDepth 20000 in
abbrev xx_X11_room_0 : scX := (Tm, invM, lnX11, [(135, 1, 0, cc_X11_in_3), (177, 0, 11, cc_X11_bad_0), (177, 0, 11, cc_X11_bad_1), (407, 0, 11, cc_X11_areLives_0), (410, 0, 11, cc_X11_laysRoom_0)], cc_X11_room_0)
set_option maxRecDepth 20000 in
theorem hh_X11_room_0 : scH Tm invM cc_X11_room_0 := scCheck_ok (X := xx_X11_room_0) (nodes := []) (fuel := 4000) ⟨lqX11, fa_cons (⟨pcs_X11_135, hh_X11_in_3⟩) (fa_cons (⟨⟨3, _, pcv_X11_177, rfl⟩, hh_X11_bad_0⟩) (fa_cons (⟨⟨3, _, pcv_X11_177, rfl⟩, hh_X11_bad_1⟩) (fa_cons (⟨⟨1, _, pcv_X11_407, rfl⟩, hh_X11_areLives_0⟩) (fa_cons (⟨⟨2, _, pcv_X11_410, rfl⟩, hh_X11_laysRoom_0⟩) (fa_nil)))))⟩ dtX11_room (by decide +kernel)
abbrev cc_X11_lines_0 : scC := (qX11_lines, 10, [((-2147483648), 2147483647), ((-2147483648), 2147483647), ((-2147483648), 2147483647)], [.inr (.inr (.inl [0])), .inl (some 0, 0), .inl (some 1, 0), .inl (some 2, 0)], [], [(1, (0, 99), [], [], [])], [(0, 0, 1), (0, 46, 1), (2, 0, 2), (14, 0, 8), (15, 0, 8)])
set_option maxRecDepth 20000 in
abbrev xx_X11_lines_0 : scX := (Tm, invM, lnX11, [(135, 1, 0, cc_X11_in_3), (177, 0, 11, cc_X11_bad_2), (177, 0, 11, cc_X11_bad_5), (177, 0, 11, cc_X11_bad_3), (177, 0, 11, cc_X11_bad_4), (331, 0, 11, cc_X11_isLife_0), (407, 0, 11, cc_X11_areLives_0), (410, 0, 11, cc_X11_laysRoom_0)], cc_X11_lines_0)
set_option maxRecDepth 20000 in
theorem hh_X11_lines_0 : scH Tm invM cc_X11_lines_0 := scCheck_ok (X := xx_X11_lines_0) (nodes := []) (fuel := 4000) ⟨lqX11, fa_cons (⟨pcs_X11_135, hh_X11_in_3⟩) (fa_cons (⟨⟨3, _, pcv_X11_177, rfl⟩, hh_X11_bad_2⟩) (fa_cons (⟨⟨3, _, pcv_X11_177, rfl⟩, hh_X11_bad_5⟩) (fa_cons (⟨⟨3, _, pcv_X11_177, rfl⟩, hh_X11_bad_3⟩) (fa_cons (⟨⟨3, _, pcv_X11_177, rfl⟩, hh_X11_bad_4⟩) (fa_cons (⟨⟨1, _, pcv_X11_331, rfl⟩, hh_X11_isLife_0⟩) (fa_cons (⟨⟨1, _, pcv_X11_407, rfl⟩, hh_X11_areLives_0⟩) (fa_cons (⟨⟨2, _, pcv_X11_410, rfl⟩, hh_X11_laysRoom_0⟩) (fa_nil))))))))⟩ dtX11_lines (by decide +kernel)
abbrev cc_X11_isApart_0 : scC := (qX11_isApart, 1, [((-2147483648), 2147483647), ((-2147483648), 2147483647)], [.inr (.inr (.inl [0])), .inl (some 0, 0), .inl (some 1, 0)], [], [(1, (0, 1), [], [], [])], [])
set_option maxRecDepth 20000 in
abbrev xx_X11_isApart_0 : scX := (Tm, invM, lnX11, [(256, 1, 0, cc_X11_has_0), (334, 0, 11, cc_X11_factsAt_0)], cc_X11_isApart_0)
set_option maxRecDepth 20000 in
theorem hh_X11_isApart_0 : scH Tm invM cc_X11_isApart_0 := scCheck_ok (X := xx_X11_isApart_0) (nodes := [(2, ([((-2147483648), 2147483647), ((-2147483648), 2147483647), (0, 8), (0, 8), (0, 200)], [some (.inr (.inr (.inl [0]))), some (.inl (some 0, 0)), some (.inl (some 1, 0)), some (.inl (some 2, 0)), none], [], [((4, 0), (some 3, 0)), ((7, 10), (some 4, 0))]), ([0, 0, (-18)], 160)), (15, ([((-2147483648), 2147483647), ((-2147483648), 2147483647), (0, 7), (0, 7), (1, 8), (0, 200)], [some (.inr (.inr (.inl [0]))), some (.inl (some 0, 0)), some (.inl (some 1, 0)), some (.inl (some 2, 0)), some (.inl (some 3, 0))], [], [((4, 0), (some 4, 0)), ((7, 10), (some 5, 0))]), ([0, 0, (-18), (-2)], 158))]) (fuel := 4000) ⟨lqX11, fa_cons (⟨pcs_X11_256, hh_X11_has_0⟩) (fa_cons (⟨⟨2, _, pcv_X11_334, rfl⟩, hh_X11_factsAt_0⟩) (fa_nil))⟩ dtX11_isApart (by decide +kernel)
abbrev cc_X11_ones_0 : scC := (qX11_ones, 0, [(0, 1)], [.inl (some 0, 0)], [], [(1, ((-2147483648), 2147483647), [], [], [])], [])
set_option maxRecDepth 20000 in
abbrev xx_X11_ones_0 : scX := (Tm, invM, lnX11, [], cc_X11_ones_0)
set_option maxRecDepth 20000 in
theorem hh_X11_ones_0 : scH Tm invM cc_X11_ones_0 := scCheck_ok (X := xx_X11_ones_0) (nodes := [(4, ([(0, 1), ((-2147483648), 2147483647), (0, 8)], [some (.inl (some 0, 0)), some (.inl (some 1, 0)), some (.inl (some 2, 0))], [], []), ([0, 0, (-2)], 16))]) (fuel := 4000) ⟨lqX11, fa_nil⟩ dtX11_ones (by decide +kernel)
abbrev cc_X11_ones_1 : scC := (qX11_ones, 0, [(0, 2)], [.inl (some 0, 0)], [], [(1, ((-2147483648), 2147483647), [], [], [])], [])
set_option maxRecDepth 20000 in
abbrev xx_X11_ones_1 : scX := (Tm, invM, lnX11, [], cc_X11_ones_1)
set_option maxRecDepth 20000 in
theorem hh_X11_ones_1 : scH Tm invM cc_X11_ones_1 := scCheck_ok (X := xx_X11_ones_1) (nodes := [(4, ([(0, 2), ((-2147483648), 2147483647), (0, 8)], [some (.inl (some 0, 0)), some (.inl (some 1, 0)), some (.inl (some 2, 0))], [], []), ([0, 0, (-2)], 16))]) (fuel := 4000) ⟨lqX11, fa_nil⟩ dtX11_ones (by decide +kernel)
abbrev cc_X11_ones_2 : scC := (qX11_ones, 0, [(0, 7)], [.inl (some 0, 0)], [], [(1, ((-2147483648), 2147483647), [], [], [])], [])
set_option maxRecDepth 20000 in
abbrev xx_X11_ones_2 : scX := (Tm, invM, lnX11, [], cc_X11_ones_2)
set_option maxRecDepth 20000 in
theorem hh_X11_ones_2 : scH Tm invM cc_X11_ones_2 := scCheck_ok (X := xx_X11_ones_2) (nodes := [(4, ([(0, 7), ((-2147483648), 2147483647), (0, 8)], [some (.inl (some 0, 0)), some (.inl (some 1, 0)), some (.inl (some 2, 0))], [], []), ([0, 0, (-2)], 16))]) (fuel := 4000) ⟨lqX11, fa_nil⟩ dtX11_ones (by decide +kernel)
abbrev cc_X11_ones_3 : scC := (qX11_ones, 0, [(0, 8)], [.inl (some 0, 0)], [], [(1, ((-2147483648), 2147483647), [], [], [])], [])
set_option maxRecDepth 20000 in
abbrev xx_X11_ones_3 : scX := (Tm, invM, lnX11, [], cc_X11_ones_3)
set_option maxRecDepth 20000 in
theorem hh_X11_ones_3 : scH Tm invM cc_X11_ones_3 := scCheck_ok (X := xx_X11_ones_3) (nodes := [(4, ([(0, 8), ((-2147483648), 2147483647), (0, 8)], [some (.inl (some 0, 0)), some (.inl (some 1, 0)), some (.inl (some 2, 0))], [], []), ([0, 0, (-2)], 16))]) (fuel := 4000) ⟨lqX11, fa_nil⟩ dtX11_ones (by decide +kernel)
abbrev cc_X11_ones_4 : scC := (qX11_ones, 0, [(0, 16)], [.inl (some 0, 0)], [], [(1, ((-2147483648), 2147483647), [], [], [])], [])
set_option maxRecDepth 20000 in
abbrev xx_X11_ones_4 : scX := (Tm, invM, lnX11, [], cc_X11_ones_4)
set_option maxRecDepth 20000 in
theorem hh_X11_ones_4 : scH Tm invM cc_X11_ones_4 := scCheck_ok (X := xx_X11_ones_4) (nodes := [(4, ([(0, 16), ((-2147483648), 2147483647), (0, 8)], [some (.inl (some 0, 0)), some (.inl (some 1, 0)), some (.inl (some 2, 0))], [], []), ([0, 0, (-2)], 16))]) (fuel := 4000) ⟨lqX11, fa_nil⟩ dtX11_ones (by decide +kernel)
abbrev cc_X11_ones_5 : scC := (qX11_ones, 0, [(0, 63)], [.inl (some 0, 0)], [], [(1, ((-2147483648), 2147483647), [], [], [])], [])
set_option maxRecDepth 20000 in
abbrev xx_X11_ones_5 : scX := (Tm, invM, lnX11, [], cc_X11_ones_5)
set_option maxRecDepth 20000 in
theorem hh_X11_ones_5 : scH Tm invM cc_X11_ones_5 := scCheck_ok (X := xx_X11_ones_5) (nodes := [(4, ([(0, 63), ((-2147483648), 2147483647), (0, 8)], [some (.inl (some 0, 0)), some (.inl (some 1, 0)), some (.inl (some 2, 0))], [], []), ([0, 0, (-2)], 16))]) (fuel := 4000) ⟨lqX11, fa_nil⟩ dtX11_ones (by decide +kernel)
abbrev cc_X11_ones_6 : scC := (qX11_ones, 0, [(0, 2147483647)], [.inl (some 0, 0)], [], [(1, ((-2147483648), 2147483647), [], [], [])], [])
set_option maxRecDepth 20000 in
abbrev xx_X11_ones_6 : scX := (Tm, invM, lnX11, [], cc_X11_ones_6)
set_option maxRecDepth 20000 in
theorem hh_X11_ones_6 : scH Tm invM cc_X11_ones_6 := scCheck_ok (X := xx_X11_ones_6) (nodes := [(4, ([(0, 2147483647), ((-2147483648), 2147483647), (0, 8)], [some (.inl (some 0, 0)), some (.inl (some 1, 0)), some (.inl (some 2, 0))], [], []), ([0, 0, (-2)], 16))]) (fuel := 4000) ⟨lqX11, fa_nil⟩ dtX11_ones (by decide +kernel)
abbrev cc_X11_apart_0 : scC := (qX11_apart, 2, [((-2147483648), 2147483647), ((-2147483648), 2147483647)], [.inr (.inr (.inl [0])), .inl (some 0, 0), .inl (some 1, 0)], [], [(1, ((-2147483648), 2147483647), [], [], [])], [(0, 0, 1), (2, 1, 1)])
set_option maxRecDepth 20000 in
abbrev xx_X11_apart_0 : scX := (Tm, invM, lnX11, [(135, 1, 0, cc_X11_in_5), (177, 0, 11, cc_X11_bad_0), (177, 0, 11, cc_X11_bad_1), (407, 0, 11, cc_X11_areLives_0), (413, 0, 11, cc_X11_isApart_0), (416, 1, 0, cc_X11_ones_0), (416, 1, 0, cc_X11_ones_1), (416, 1, 0, cc_X11_ones_2), (416, 1, 0, cc_X11_ones_3), (416, 1, 0, cc_X11_ones_4), (416, 1, 0, cc_X11_ones_5), (416, 1, 0, cc_X11_ones_6)], cc_X11_apart_0)
set_option maxRecDepth 20000 in
theorem hh_X11_apart_0 : scH Tm invM cc_X11_apart_0 := scCheck_ok (X := xx_X11_apart_0) (nodes := [(43, ([(0, 2147483647), (0, 1), ((-1), 2147483647), (0, 64), (0, 0)], [some (.inr (.inr (.inl [0]))), some (.inl (some 0, 0)), some (.inl (some 1, 0)), some (.inl (some 2, 0)), some (.inl (some 3, 0))], [], [((0, 0), (some 4, 0))]), ([0, 0, 0, (-2)], 128))]) (fuel := 4000) ⟨lqX11, fa_cons (⟨pcs_X11_135, hh_X11_in_5⟩) (fa_cons (⟨⟨3, _, pcv_X11_177, rfl⟩, hh_X11_bad_0⟩) (fa_cons (⟨⟨3, _, pcv_X11_177, rfl⟩, hh_X11_bad_1⟩) (fa_cons (⟨⟨1, _, pcv_X11_407, rfl⟩, hh_X11_areLives_0⟩) (fa_cons (⟨⟨2, _, pcv_X11_413, rfl⟩, hh_X11_isApart_0⟩) (fa_cons (⟨pcs_X11_416, hh_X11_ones_0⟩) (fa_cons (⟨pcs_X11_416, hh_X11_ones_1⟩) (fa_cons (⟨pcs_X11_416, hh_X11_ones_2⟩) (fa_cons (⟨pcs_X11_416, hh_X11_ones_3⟩) (fa_cons (⟨pcs_X11_416, hh_X11_ones_4⟩) (fa_cons (⟨pcs_X11_416, hh_X11_ones_5⟩) (fa_cons (⟨pcs_X11_416, hh_X11_ones_6⟩) (fa_nil))))))))))))⟩ dtX11_apart (by decide +kernel)
abbrev cc_X11_twins_0 : scC := (qX11_twins, 1, [], [.inr (.inr (.inl [0]))], [], [(1, ((-1), 77), [], [], [])], [(0, 0, 1)])
set_option maxRecDepth 20000 in
abbrev xx_X11_twins_0 : scX := (Tm, invM, lnX11, [(334, 0, 11, cc_X11_factsAt_0)], cc_X11_twins_0)
set_option maxRecDepth 20000 in
theorem hh_X11_twins_0 : scH Tm invM cc_X11_twins_0 := scCheck_ok (X := xx_X11_twins_0) (nodes := [(7, ([(0, 8), (0, 0), (0, 8), (0, 200)], [some (.inr (.inr (.inl [0]))), some (.inl (some 0, 0)), none], [], [((0, 0), (some 1, 0)), ((4, 0), (some 2, 0)), ((7, 10), (some 3, 0))]), ([(-18)], 160)), (21, ([(0, 7), (1, 8), (1, 8), (0, 0), (0, 200)], [some (.inr (.inr (.inl [0]))), some (.inl (some 0, 0)), some (.inl (some 1, 0))], [], [((4, 0), (some 2, 0)), ((0, 0), (some 3, 0)), ((7, 10), (some 4, 0))]), ([(-18), (-2)], 160))]) (fuel := 4000) ⟨lqX11, fa_cons (⟨⟨2, _, pcv_X11_334, rfl⟩, hh_X11_factsAt_0⟩) (fa_nil)⟩ dtX11_twins (by decide +kernel)
abbrev cc_X11_writtenOf_0 : scC := (qX11_writtenOf, 1, [((-2147483648), 2147483647)], [.inr (.inr (.inl [0])), .inl (some 0, 0)], [], [(2, ((-9223372036854775808), 9223372036854775807), [], [], [])], [])
set_option maxRecDepth 20000 in
abbrev xx_X11_writtenOf_0 : scX := (Tm, invM, lnX11, [(334, 0, 11, cc_X11_factsAt_0)], cc_X11_writtenOf_0)
set_option maxRecDepth 20000 in
theorem hh_X11_writtenOf_0 : scH Tm invM cc_X11_writtenOf_0 := scCheck_ok (X := xx_X11_writtenOf_0) (nodes := [(5, ([((-2147483648), 2147483647), (0, 61), (0, 6), (0, 1), (0, 5)], [some (.inr (.inr (.inl [0]))), some (.inl (some 0, 0)), some (.inr (.inl ((-9223372036854775808), 9223372036854775807))), none, some (.inl (some 1, 0)), none, none], [], [((0, 31), (some 2, 0)), ((411, 1), (some 3, 0)), ((411, 0), (some 4, 0))]), ([0, (-16)], 990)), (18, ([((-2147483648), 2147483647), (0, 60), (0, 1), (0, 6), (0, 1), (0, 5), (0, 6)], [some (.inr (.inr (.inl [0]))), some (.inl (some 0, 0)), some (.inr (.inl ((-9223372036854775808), 9223372036854775807))), none, some (.inl (some 1, 0)), some (.inl (some 2, 0)), some (.inl (some 3, 0))], [], [((411, 1), (some 4, 0)), ((411, 0), (some 5, 0)), ((0, 31), (some 6, 0))]), ([0, (-16), 0, (-2)], 988))]) (fuel := 4000) ⟨lqX11, fa_cons (⟨⟨2, _, pcv_X11_334, rfl⟩, hh_X11_factsAt_0⟩) (fa_nil)⟩ dtX11_writtenOf (by decide +kernel)
abbrev cc_X11_written_0 : scC := (qX11_written, 2, [((-2147483648), 2147483647)], [.inr (.inr (.inl [0])), .inl (some 0, 0)], [], [(2, ((-9223372036854775808), 9223372036854775807), [], [], [])], [(0, 0, 1), (2, 0, 1)])
set_option maxRecDepth 20000 in
abbrev xx_X11_written_0 : scX := (Tm, invM, lnX11, [(177, 0, 11, cc_X11_bad_2), (177, 0, 11, cc_X11_bad_5), (331, 0, 11, cc_X11_isLife_0), (419, 0, 11, cc_X11_writtenOf_0)], cc_X11_written_0)
set_option maxRecDepth 20000 in
theorem hh_X11_written_0 : scH Tm invM cc_X11_written_0 := scCheck_ok (X := xx_X11_written_0) (nodes := []) (fuel := 4000) ⟨lqX11, fa_cons (⟨⟨3, _, pcv_X11_177, rfl⟩, hh_X11_bad_2⟩) (fa_cons (⟨⟨3, _, pcv_X11_177, rfl⟩, hh_X11_bad_5⟩) (fa_cons (⟨⟨1, _, pcv_X11_331, rfl⟩, hh_X11_isLife_0⟩) (fa_cons (⟨⟨1, _, pcv_X11_419, rfl⟩, hh_X11_writtenOf_0⟩) (fa_nil))))⟩ dtX11_written (by decide +kernel)
abbrev cc_X11_whose_0 : scC := (qX11_whose, 2, [], [.inr (.inr (.inl [0]))], [], [(1, ((-2147483648), 2147483647), [], [], [])], [(0, 0, 1)])
set_option maxRecDepth 20000 in
abbrev xx_X11_whose_0 : scX := (Tm, invM, lnX11, [(419, 0, 11, cc_X11_writtenOf_0)], cc_X11_whose_0)
set_option maxRecDepth 20000 in
theorem hh_X11_whose_0 : scH Tm invM cc_X11_whose_0 := scCheck_ok (X := xx_X11_whose_0) (nodes := [(9, ([((-2147483648), 2147483647), (0, 8), (0, 0), (0, 8)], [some (.inr (.inr (.inl [0]))), some (.inl (some 0, 0)), some (.inl (some 1, 0))], [], [((0, 0), (some 2, 0)), ((4, 0), (some 3, 0))]), ([0, (-2)], 16))]) (fuel := 4000) ⟨lqX11, fa_cons (⟨⟨1, _, pcv_X11_419, rfl⟩, hh_X11_writtenOf_0⟩) (fa_nil)⟩ dtX11_whose (by decide +kernel)
abbrev cc_X11_in_15 : scC := (qX11_in, 0, [((-2147483648), 2147483647), (0, 0), (60, 60)], [.inl (some 0, 0), .inl (some 1, 0), .inl (some 2, 0)], [], [(1, (0, 0), [], [], []), (1, (1, 1), [], [(0, (0, 60))], [])], [])
set_option maxRecDepth 20000 in
abbrev xx_X11_in_15 : scX := (Tm, invM, lnX11, [], cc_X11_in_15)
set_option maxRecDepth 20000 in
theorem hh_X11_in_15 : scH Tm invM cc_X11_in_15 := scCheck_ok (X := xx_X11_in_15) (nodes := []) (fuel := 4000) ⟨lqX11, fa_nil⟩ dtX11_in (by decide +kernel)
abbrev cc_X11_riskOf_1 : scC := (qX11_riskOf, 8, [], [.inr (.inr (.inl [0])), .inr (.inr (.inl [8]))], [], [(2, ((-9223372036854775808), 9223372036854775807), [], [], [])], [(5, 0, 160), (6, 0, 5)])
set_option maxRecDepth 20000 in
abbrev xx_X11_riskOf_1 : scX := (Tm, invM, lnX11, [(293, 0, 11, cc_X11_costOf_0)], cc_X11_riskOf_1)
set_option maxRecDepth 20000 in
theorem hh_X11_riskOf_1 : scH Tm invM cc_X11_riskOf_1 := scCheck_ok (X := xx_X11_riskOf_1) (nodes := [(5, ([(0, 8), (0, 64), (0, 8)], [some (.inr (.inr (.inl [0]))), some (.inr (.inr (.inl [8]))), some (.inr (.inl ((-9223372036854775808), 9223372036854775807))), none, some (.inl (some 0, 0))], [], [((35, 1), (some 1, 0)), ((4, 0), (some 2, 0))]), ([(-2)], 16))]) (fuel := 4000) ⟨lqX11, fa_cons (⟨⟨2, _, pcv_X11_293, rfl⟩, hh_X11_costOf_0⟩) (fa_nil)⟩ dtX11_riskOf (by decide +kernel)
abbrev cc_X11_riskIn_0 : scC := (qX11_riskIn, 9, [((-2147483648), 2147483647)], [.inr (.inr (.inl [0])), .inl (some 0, 0)], [], [(2, ((-9223372036854775808), 9223372036854775807), [], [], [])], [(5, 0, 160), (6, 0, 5), (8, 0, 14)])
set_option maxRecDepth 20000 in
abbrev xx_X11_riskIn_0 : scX := (Tm, invM, lnX11, [(306, 0, 11, cc_X11_weekEnds_0), (323, 1, 0, cc_X11_copies_0), (349, 0, 11, cc_X11_riskOf_1)], cc_X11_riskIn_0)
set_option maxRecDepth 20000 in
theorem hh_X11_riskIn_0 : scH Tm invM cc_X11_riskIn_0 := scCheck_ok (X := xx_X11_riskIn_0) (nodes := [(13, ([((-2147483648), 2147483647), (0, 2147483647)], [some (.inr (.inr (.inl [0]))), some (.inl (some 0, 0)), some (.inl (some 1, 0))], [], []), ([0, (-2)], 4294967294))]) (fuel := 4000) ⟨lqX11, fa_cons (⟨⟨1, _, pcv_X11_306, rfl⟩, hh_X11_weekEnds_0⟩) (fa_cons (⟨pcs_X11_323, hh_X11_copies_0⟩) (fa_cons (⟨⟨1, _, pcv_X11_349, rfl⟩, hh_X11_riskOf_1⟩) (fa_nil)))⟩ dtX11_riskIn (by decide +kernel)
abbrev cc_X11_ahead_0 : scC := (qX11_ahead, 10, [((-2147483648), 2147483647), ((-2147483648), 2147483647)], [.inr (.inr (.inl [0])), .inl (some 0, 0), .inl (some 1, 0)], [], [(2, ((-9223372036854775808), 9223372036854775807), [], [], [])], [(0, 0, 1), (2, 1, 1), (5, 0, 160), (6, 0, 5), (8, 0, 14)])
set_option maxRecDepth 20000 in
abbrev xx_X11_ahead_0 : scX := (Tm, invM, lnX11, [(135, 1, 0, cc_X11_in_15), (177, 0, 11, cc_X11_bad_0), (177, 0, 11, cc_X11_bad_1), (340, 0, 11, cc_X11_noPart_0), (345, 1, 0, cc_hand_partOf), (423, 0, 11, cc_X11_riskIn_0)], cc_X11_ahead_0)
set_option maxRecDepth 20000 in
theorem hh_X11_ahead_0 : scH Tm invM cc_X11_ahead_0 := scCheck_ok (X := xx_X11_ahead_0) (nodes := []) (fuel := 4000) ⟨lqX11, fa_cons (⟨pcs_X11_135, hh_X11_in_15⟩) (fa_cons (⟨⟨3, _, pcv_X11_177, rfl⟩, hh_X11_bad_0⟩) (fa_cons (⟨⟨3, _, pcv_X11_177, rfl⟩, hh_X11_bad_1⟩) (fa_cons (⟨⟨2, _, pcv_X11_340, rfl⟩, hh_X11_noPart_0⟩) (fa_cons (⟨pcs_X11_345, hh_hand_partOf⟩) (fa_cons (⟨⟨1, _, pcv_X11_423, rfl⟩, hh_X11_riskIn_0⟩) (fa_nil))))))⟩ dtX11_ahead (by decide +kernel)
abbrev cc_X11_worst_0 : scC := (qX11_worst, 10, [], [.inr (.inr (.inl [0]))], [], [(1, (0, 2147483647), [], [], [])], [(0, 0, 1), (5, 0, 160), (6, 0, 5), (8, 0, 14)])
set_option maxRecDepth 20000 in
abbrev xx_X11_worst_0 : scX := (Tm, invM, lnX11, [(423, 0, 11, cc_X11_riskIn_0)], cc_X11_worst_0)
set_option maxRecDepth 20000 in
theorem hh_X11_worst_0 : scH Tm invM cc_X11_worst_0 := scCheck_ok (X := xx_X11_worst_0) (nodes := [(9, ([(0, 2147483647), (1, 61), (0, 0)], [some (.inr (.inr (.inl [0]))), some (.inl (some 0, 0)), some (.inl (some 1, 0))], [], [((0, 0), (some 2, 0))]), ([0, (-2)], 122))]) (fuel := 4000) ⟨lqX11, fa_cons (⟨⟨1, _, pcv_X11_423, rfl⟩, hh_X11_riskIn_0⟩) (fa_nil)⟩ dtX11_worst (by decide +kernel)
abbrev cc_X11_lives_0 : scC := (qX11_lives, 2, [((-2147483648), 2147483647), ((-2147483648), 2147483647), ((-2147483648), 2147483647)], [.inr (.inr (.inl [0])), .inl (some 0, 0), .inl (some 1, 0), .inl (some 2, 0)], [], [(2, ((-9223372036854775808), 9223372036854775807), [], [], [])], [(0, 0, 1), (2, 0, 2)])
set_option maxRecDepth 20000 in
abbrev xx_X11_lives_0 : scX := (Tm, invM, lnX11, [(135, 1, 0, cc_X11_in_0), (177, 0, 11, cc_X11_bad_2), (177, 0, 11, cc_X11_bad_5), (177, 0, 11, cc_X11_bad_3), (177, 0, 11, cc_X11_bad_4), (256, 1, 0, cc_X11_has_0), (331, 0, 11, cc_X11_isLife_0), (340, 0, 11, cc_X11_noPart_1), (345, 1, 0, cc_hand_partOf), (365, 1, 0, cc_hand_power), (365, 1, 0, cc_X11_power_1)], cc_X11_lives_0)
set_option maxRecDepth 20000 in
theorem hh_X11_lives_0 : scH Tm invM cc_X11_lives_0 := scCheck_ok (X := xx_X11_lives_0) (nodes := []) (fuel := 4000) ⟨lqX11, fa_cons (⟨pcs_X11_135, hh_X11_in_0⟩) (fa_cons (⟨⟨3, _, pcv_X11_177, rfl⟩, hh_X11_bad_2⟩) (fa_cons (⟨⟨3, _, pcv_X11_177, rfl⟩, hh_X11_bad_5⟩) (fa_cons (⟨⟨3, _, pcv_X11_177, rfl⟩, hh_X11_bad_3⟩) (fa_cons (⟨⟨3, _, pcv_X11_177, rfl⟩, hh_X11_bad_4⟩) (fa_cons (⟨pcs_X11_256, hh_X11_has_0⟩) (fa_cons (⟨⟨1, _, pcv_X11_331, rfl⟩, hh_X11_isLife_0⟩) (fa_cons (⟨⟨2, _, pcv_X11_340, rfl⟩, hh_X11_noPart_1⟩) (fa_cons (⟨pcs_X11_345, hh_hand_partOf⟩) (fa_cons (⟨pcs_X11_365, hh_hand_power⟩) (fa_cons (⟨pcs_X11_365, hh_X11_power_1⟩) (fa_nil)))))))))))⟩ dtX11_lives (by decide +kernel)
abbrev cc_X11_oldest_0 : scC := (qX11_oldest, 1, [], [.inr (.inr (.inl [0]))], [], [(1, ((-1), 7), [], [], [])], [(0, 0, 1)])
set_option maxRecDepth 20000 in
abbrev xx_X11_oldest_0 : scX := (Tm, invM, lnX11, [(283, 1, 0, cc_X11_hasPiece_1)], cc_X11_oldest_0)
set_option maxRecDepth 20000 in
theorem hh_X11_oldest_0 : scH Tm invM cc_X11_oldest_0 := scCheck_ok (X := xx_X11_oldest_0) (nodes := [(9, ([((-1), 7), (0, 8), (0, 0), (0, 8), ((-1000), 200)], [some (.inr (.inr (.inl [0]))), some (.inl (some 0, 0)), some (.inl (some 1, 0))], [], [((0, 0), (some 2, 0)), ((4, 0), (some 3, 0)), ((7, 1), (some 4, 0))]), ([0, (-2)], 16))]) (fuel := 4000) ⟨lqX11, fa_cons (⟨pcs_X11_283, hh_X11_hasPiece_1⟩) (fa_nil)⟩ dtX11_oldest (by decide +kernel)
