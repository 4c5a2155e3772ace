-- P 12pb
section
abbrev cc_X11_wrongIn_5 : scC := (qX11_wrongIn, 5, [(0, 7), (0, 255), (0, 255)], [.inr (.inr (.inl [0])), .inr (.inr (.inl [7])), .inl (some 0, 0), .inl (some 1, 0), .inl (some 2, 0)], [], [(1, (0, 64), [], [], [])], [(5, 0, 160), (6, 0, 5)])
set_option maxRecDepth 20000 in
abbrev xx_X11_wrongIn_5 : scX := (Tm, invM, lnX11, [(263, 0, 11, cc_X11_yearsOf_2), (266, 0, 11, cc_X11_isByDead_1), (270, 0, 11, cc_X11_changesOf_0), (273, 0, 11, cc_X11_wrongBy_0)], cc_X11_wrongIn_5)
set_option maxRecDepth 20000 in
theorem hh_X11_wrongIn_5 : scH Tm invM cc_X11_wrongIn_5 := scCheck_ok (X := xx_X11_wrongIn_5) (nodes := []) (fuel := 4000) ⟨lqX11, fa_cons (⟨⟨2, _, pcv_X11_263, rfl⟩, hh_X11_yearsOf_2⟩) (fa_cons (⟨⟨2, _, pcv_X11_266, rfl⟩, hh_X11_isByDead_1⟩) (fa_cons (⟨⟨3, _, pcv_X11_270, rfl⟩, hh_X11_changesOf_0⟩) (fa_cons (⟨⟨5, _, pcv_X11_273, rfl⟩, hh_X11_wrongBy_0⟩) (fa_nil))))⟩ dtX11_wrongIn (by decide +kernel)
abbrev cc_X11_costIn_5 : scC := (qX11_costIn, 6, [(0, 7), (0, 255), (0, 255)], [.inr (.inr (.inl [0])), .inr (.inr (.inl [7])), .inl (some 0, 0), .inl (some 1, 0), .inl (some 2, 0)], [], [(1, (0, 57024), [], [], [])], [(5, 0, 160), (6, 0, 5)])
set_option maxRecDepth 20000 in
abbrev xx_X11_costIn_5 : scX := (Tm, invM, lnX11, [(276, 0, 11, cc_X11_wrongIn_5)], cc_X11_costIn_5)
set_option maxRecDepth 20000 in
theorem hh_X11_costIn_5 : scH Tm invM cc_X11_costIn_5 := scCheck_ok (X := xx_X11_costIn_5) (nodes := []) (fuel := 4000) ⟨lqX11, fa_cons (⟨⟨4, _, pcv_X11_276, rfl⟩, hh_X11_wrongIn_5⟩) (fa_nil)⟩ dtX11_costIn (by decide +kernel)
abbrev cc_X11_wrongIn_6 : scC := (qX11_wrongIn, 5, [(0, 7), ((-1000), 200), (0, 255)], [.inr (.inr (.inl [0])), .inr (.inr (.inl [7])), .inl (some 0, 0), .inl (some 1, 0), .inl (some 2, 0)], [], [(1, (0, 64), [], [], [])], [(5, 0, 160), (6, 0, 5)])
set_option maxRecDepth 20000 in
abbrev xx_X11_wrongIn_6 : scX := (Tm, invM, lnX11, [(263, 0, 11, cc_X11_yearsOf_2), (266, 0, 11, cc_X11_isByDead_1), (270, 0, 11, cc_X11_changesOf_0), (273, 0, 11, cc_X11_wrongBy_0)], cc_X11_wrongIn_6)
set_option maxRecDepth 20000 in
theorem hh_X11_wrongIn_6 : scH Tm invM cc_X11_wrongIn_6 := scCheck_ok (X := xx_X11_wrongIn_6) (nodes := []) (fuel := 4000) ⟨lqX11, fa_cons (⟨⟨2, _, pcv_X11_263, rfl⟩, hh_X11_yearsOf_2⟩) (fa_cons (⟨⟨2, _, pcv_X11_266, rfl⟩, hh_X11_isByDead_1⟩) (fa_cons (⟨⟨3, _, pcv_X11_270, rfl⟩, hh_X11_changesOf_0⟩) (fa_cons (⟨⟨5, _, pcv_X11_273, rfl⟩, hh_X11_wrongBy_0⟩) (fa_nil))))⟩ dtX11_wrongIn (by decide +kernel)
abbrev cc_X11_costIn_6 : scC := (qX11_costIn, 6, [(0, 7), ((-1000), 200), (0, 255)], [.inr (.inr (.inl [0])), .inr (.inr (.inl [7])), .inl (some 0, 0), .inl (some 1, 0), .inl (some 2, 0)], [], [(1, (0, 57024), [], [], [])], [(5, 0, 160), (6, 0, 5)])
set_option maxRecDepth 20000 in
abbrev xx_X11_costIn_6 : scX := (Tm, invM, lnX11, [(276, 0, 11, cc_X11_wrongIn_6)], cc_X11_costIn_6)
set_option maxRecDepth 20000 in
theorem hh_X11_costIn_6 : scH Tm invM cc_X11_costIn_6 := scCheck_ok (X := xx_X11_costIn_6) (nodes := []) (fuel := 4000) ⟨lqX11, fa_cons (⟨⟨4, _, pcv_X11_276, rfl⟩, hh_X11_wrongIn_6⟩) (fa_nil)⟩ dtX11_costIn (by decide +kernel)
abbrev cc_X11_wrongIn_7 : scC := (qX11_wrongIn, 5, [(0, 7), ((-1000), 600), (0, 255)], [.inr (.inr (.inl [0])), .inr (.inr (.inl [7])), .inl (some 0, 0), .inl (some 1, 0), .inl (some 2, 0)], [], [(1, (0, 64), [], [], [])], [(5, 0, 160), (6, 0, 5)])
set_option maxRecDepth 20000 in
abbrev xx_X11_wrongIn_7 : scX := (Tm, invM, lnX11, [(263, 0, 11, cc_X11_yearsOf_2), (266, 0, 11, cc_X11_isByDead_1), (270, 0, 11, cc_X11_changesOf_0), (273, 0, 11, cc_X11_wrongBy_0)], cc_X11_wrongIn_7)
set_option maxRecDepth 20000 in
theorem hh_X11_wrongIn_7 : scH Tm invM cc_X11_wrongIn_7 := scCheck_ok (X := xx_X11_wrongIn_7) (nodes := []) (fuel := 4000) ⟨lqX11, fa_cons (⟨⟨2, _, pcv_X11_263, rfl⟩, hh_X11_yearsOf_2⟩) (fa_cons (⟨⟨2, _, pcv_X11_266, rfl⟩, hh_X11_isByDead_1⟩) (fa_cons (⟨⟨3, _, pcv_X11_270, rfl⟩, hh_X11_changesOf_0⟩) (fa_cons (⟨⟨5, _, pcv_X11_273, rfl⟩, hh_X11_wrongBy_0⟩) (fa_nil))))⟩ dtX11_wrongIn (by decide +kernel)
abbrev cc_X11_costIn_7 : scC := (qX11_costIn, 6, [(0, 7), ((-1000), 600), (0, 255)], [.inr (.inr (.inl [0])), .inr (.inr (.inl [7])), .inl (some 0, 0), .inl (some 1, 0), .inl (some 2, 0)], [], [(1, (0, 57024), [], [], [])], [(5, 0, 160), (6, 0, 5)])
set_option maxRecDepth 20000 in
abbrev xx_X11_costIn_7 : scX := (Tm, invM, lnX11, [(276, 0, 11, cc_X11_wrongIn_7)], cc_X11_costIn_7)
set_option maxRecDepth 20000 in
theorem hh_X11_costIn_7 : scH Tm invM cc_X11_costIn_7 := scCheck_ok (X := xx_X11_costIn_7) (nodes := []) (fuel := 4000) ⟨lqX11, fa_cons (⟨⟨4, _, pcv_X11_276, rfl⟩, hh_X11_wrongIn_7⟩) (fa_nil)⟩ dtX11_costIn (by decide +kernel)
abbrev cc_X11_isOption_2 : scC := (qX11_isOption, 7, [(0, 7), (1, 3), (0, 2147483647)], [.inr (.inr (.inl [0])), .inl (some 0, 0), .inl (some 1, 0), .inl (some 2, 0)], [], [(1, (0, 1), [], [], [])], [(0, 43, 1), (5, 0, 160), (6, 0, 5), (13, 0, 3)])
set_option maxRecDepth 20000 in
abbrev xx_X11_isOption_2 : scX := (Tm, invM, lnX11, [(256, 1, 0, cc_X11_has_0), (280, 0, 11, cc_X11_costIn_5), (280, 0, 11, cc_X11_costIn_1), (280, 0, 11, cc_X11_costIn_6), (280, 0, 11, cc_X11_costIn_7), (287, 0, 11, cc_X11_renewHours_0), (365, 1, 0, cc_hand_power), (365, 1, 0, cc_X11_power_1)], cc_X11_isOption_2)
set_option maxRecDepth 20000 in
theorem hh_X11_isOption_2 : scH Tm invM cc_X11_isOption_2 := scCheck_ok (X := xx_X11_isOption_2) (nodes := [(28, ([(0, 7), (1, 3), (0, 2147483647), ((-1000), 200), (0, 64), (0, 3), (0, 9)], [some (.inr (.inr (.inl [0]))), some (.inl (some 0, 0)), some (.inl (some 1, 0)), some (.inl (some 2, 0)), some (.inl (some 3, 0)), some (.inl (some 4, 0)), some (.inl (some 5, 0)), none], [], [((13, 0), (some 6, 0))]), ([0, 0, 0, 0, 0, (-2)], 14)), (74, ([(0, 7), (1, 3), (0, 2147483647), ((-1000), 600), (0, 64), (0, 3), ((-2147483648), 2147483647), (0, 9), (0, 200)], [some (.inr (.inr (.inl [0]))), some (.inl (some 0, 0)), some (.inl (some 1, 0)), some (.inl (some 2, 0)), some (.inl (some 3, 0)), some (.inl (some 4, 0)), some (.inl (some 5, 0)), none], [], [((7, 0), (some 6, 0)), ((13, 0), (some 7, 0)), ((7, 10), (some 8, 0))]), ([0, 0, 0, 0, 0, (-2)], 6))]) (fuel := 4000) ⟨lqX11, fa_cons (⟨pcs_X11_256, hh_X11_has_0⟩) (fa_cons (⟨⟨4, _, pcv_X11_280, rfl⟩, hh_X11_costIn_5⟩) (fa_cons (⟨⟨4, _, pcv_X11_280, rfl⟩, hh_X11_costIn_1⟩) (fa_cons (⟨⟨4, _, pcv_X11_280, rfl⟩, hh_X11_costIn_6⟩) (fa_cons (⟨⟨4, _, pcv_X11_280, rfl⟩, hh_X11_costIn_7⟩) (fa_cons (⟨⟨1, _, pcv_X11_287, rfl⟩, hh_X11_renewHours_0⟩) (fa_cons (⟨pcs_X11_365, hh_hand_power⟩) (fa_cons (⟨pcs_X11_365, hh_X11_power_1⟩) (fa_nil))))))))⟩ dtX11_isOption (by decide +kernel)
abbrev cc_X11_laysBest_0 : scC := (qX11_laysBest, 8, [(1, 3)], [.inr (.inr (.inl [0])), .inl (some 0, 0)], [], [(1, (14, 2196), [], [], [])], [(0, 43, 1), (5, 0, 160), (6, 0, 5), (9, 0, 2197), (10, 0, 2197), (11, 0, 2197), (12, 0, 2197), (13, 0, 3)])
set_option maxRecDepth 20000 in
abbrev xx_X11_laysBest_0 : scX := (Tm, invM, lnX11, [(369, 1, 0, cc_X11_roomOf_0), (374, 0, 11, cc_X11_isOption_0), (374, 0, 11, cc_X11_isOption_1), (374, 0, 11, cc_X11_isOption_2), (377, 0, 11, cc_hand_laysOption)], cc_X11_laysBest_0)
set_option maxRecDepth 20000 in
theorem hh_X11_laysBest_0 : scH Tm invM cc_X11_laysBest_0 := scCheck_ok (X := xx_X11_laysBest_0) (nodes := [(2, ([(1, 3), (0, 2197)], [some (.inr (.inr (.inl [0]))), some (.inl (some 0, 0)), some (.inl (some 1, 0)), none], [], []), ([0, (-2)], 38654789204)), (31, ([(1, 3), (0, 8), (0, 8)], [some (.inr (.inr (.inl [0]))), some (.inl (some 0, 0)), some (.inl (some 1, 0)), none], [], [((4, 0), (some 2, 0))]), ([0, (-4294976090)], 38654784808)), (43, ([(1, 3), (0, 7), (0, 2197), (1, 8)], [some (.inr (.inr (.inl [0]))), some (.inl (some 0, 0)), some (.inl (some 1, 0)), some (.inl (some 2, 0))], [], [((4, 0), (some 3, 0))]), ([0, (-4294976090), (-2)], 38654784806)), (67, ([(1, 3), (0, 7), (0, 2147483647), (1, 8)], [some (.inr (.inr (.inl [0]))), some (.inl (some 0, 0)), some (.inl (some 1, 0)), some (.inl (some 2, 0))], [], [((4, 0), (some 3, 0))]), ([0, (-4294976090), (-2)], 38654780410)), (98, ([(1, 3), (0, 7), (0, 2197), (1, 8)], [some (.inr (.inr (.inl [0]))), some (.inl (some 0, 0)), some (.inl (some 1, 0)), some (.inl (some 2, 0))], [], [((4, 0), (some 3, 0))]), ([0, (-4294976090), (-2)], 34359813114))]) (fuel := 4000) ⟨lqX11, fa_cons (⟨pcs_X11_369, hh_X11_roomOf_0⟩) (fa_cons (⟨⟨3, _, pcv_X11_374, rfl⟩, hh_X11_isOption_0⟩) (fa_cons (⟨⟨3, _, pcv_X11_374, rfl⟩, hh_X11_isOption_1⟩) (fa_cons (⟨⟨3, _, pcv_X11_374, rfl⟩, hh_X11_isOption_2⟩) (fa_cons (⟨⟨2, _, pcv_X11_377, rfl⟩, hh_hand_laysOption⟩) (fa_nil)))))⟩ dtX11_laysBest (by decide +kernel)
abbrev cc_X11_best_0 : scC := (qX11_best, 9, [((-2147483648), 2147483647), ((-2147483648), 2147483647)], [.inr (.inr (.inl [0])), .inl (some 0, 0), .inl (some 1, 0)], [], [(2, ((-9223372036854775808), 9223372036854775807), [], [], [])], [(0, 0, 1), (0, 43, 1), (2, 1, 1), (5, 0, 160), (6, 0, 5), (9, 0, 2197), (10, 0, 2197), (11, 0, 2197), (12, 0, 2197), (13, 0, 3)])
set_option maxRecDepth 20000 in
abbrev xx_X11_best_0 : scX := (Tm, invM, lnX11, [(135, 1, 0, cc_X11_in_8), (177, 0, 11, cc_X11_bad_0), (177, 0, 11, cc_X11_bad_1), (340, 0, 11, cc_X11_noPart_0), (345, 1, 0, cc_hand_partOf), (365, 1, 0, cc_hand_power), (380, 0, 11, cc_X11_laysBest_0)], cc_X11_best_0)
set_option maxRecDepth 20000 in
theorem hh_X11_best_0 : scH Tm invM cc_X11_best_0 := scCheck_ok (X := xx_X11_best_0) (nodes := []) (fuel := 4000) ⟨lqX11, fa_cons (⟨pcs_X11_135, hh_X11_in_8⟩) (fa_cons (⟨⟨3, _, pcv_X11_177, rfl⟩, hh_X11_bad_0⟩) (fa_cons (⟨⟨3, _, pcv_X11_177, rfl⟩, hh_X11_bad_1⟩) (fa_cons (⟨⟨2, _, pcv_X11_340, rfl⟩, hh_X11_noPart_0⟩) (fa_cons (⟨pcs_X11_345, hh_hand_partOf⟩) (fa_cons (⟨pcs_X11_365, hh_hand_power⟩) (fa_cons (⟨⟨1, _, pcv_X11_380, rfl⟩, hh_X11_laysBest_0⟩) (fa_nil)))))))⟩ dtX11_best (by decide +kernel)
abbrev cc_X11_in_9 : scC := (qX11_in, 0, [((-2147483648), 2147483647), (0, 0), (0, 2)], [.inl (some 0, 0), .inl (some 1, 0), .inl (some 2, 0)], [], [(1, (0, 0), [], [], []), (1, (1, 1), [], [(0, (0, 2))], [])], [])
set_option maxRecDepth 20000 in
abbrev xx_X11_in_9 : scX := (Tm, invM, lnX11, [], cc_X11_in_9)
set_option maxRecDepth 20000 in
theorem hh_X11_in_9 : scH Tm invM cc_X11_in_9 := scCheck_ok (X := xx_X11_in_9) (nodes := []) (fuel := 4000) ⟨lqX11, fa_nil⟩ dtX11_in (by decide +kernel)
abbrev cc_X11_bestIn_0 : scC := (qX11_bestIn, 9, [((-2147483648), 2147483647), ((-2147483648), 2147483647)], [.inr (.inr (.inl [0])), .inl (some 0, 0), .inl (some 1, 0)], [], [(1, ((-2147483648), 2147483647), [], [], [])], [(0, 0, 1), (0, 43, 1), (2, 1, 1), (5, 0, 160), (6, 0, 5), (9, 0, 2197), (10, 0, 2197), (11, 0, 2197), (12, 0, 2197), (13, 0, 3)])
set_option maxRecDepth 20000 in
abbrev xx_X11_bestIn_0 : scX := (Tm, invM, lnX11, [(135, 1, 0, cc_X11_in_8), (135, 1, 0, cc_X11_in_9), (177, 0, 11, cc_X11_bad_0), (177, 0, 11, cc_X11_bad_1), (380, 0, 11, cc_X11_laysBest_0)], cc_X11_bestIn_0)
set_option maxRecDepth 20000 in
theorem hh_X11_bestIn_0 : scH Tm invM cc_X11_bestIn_0 := scCheck_ok (X := xx_X11_bestIn_0) (nodes := []) (fuel := 4000) ⟨lqX11, fa_cons (⟨pcs_X11_135, hh_X11_in_8⟩) (fa_cons (⟨pcs_X11_135, hh_X11_in_9⟩) (fa_cons (⟨⟨3, _, pcv_X11_177, rfl⟩, hh_X11_bad_0⟩) (fa_cons (⟨⟨3, _, pcv_X11_177, rfl⟩, hh_X11_bad_1⟩) (fa_cons (⟨⟨1, _, pcv_X11_380, rfl⟩, hh_X11_laysBest_0⟩) (fa_nil)))))⟩ dtX11_bestIn (by decide +kernel)
abbrev cc_X11_in_10 : scC := (qX11_in, 0, [((-2147483648), 2147483647), (0, 0), (999, 999)], [.inl (some 0, 0), .inl (some 1, 0), .inl (some 2, 0)], [], [(1, (0, 0), [], [], []), (1, (1, 1), [], [(0, (0, 999))], [])], [])
set_option maxRecDepth 20000 in
abbrev xx_X11_in_10 : scX := (Tm, invM, lnX11, [], cc_X11_in_10)
set_option maxRecDepth 20000 in
theorem hh_X11_in_10 : scH Tm invM cc_X11_in_10 := scCheck_ok (X := xx_X11_in_10) (nodes := []) (fuel := 4000) ⟨lqX11, fa_nil⟩ dtX11_in (by decide +kernel)
abbrev cc_X11_oftenBy_0 : scC := (qX11_oftenBy, 5, [(0, 7), ((-2147483648), 2147483647), (0, 7)], [.inr (.inr (.inl [0])), .inl (some 0, 0), .inl (some 1, 0), .inl (some 2, 0)], [], [(2, ((-9223372036854775808), 9223372036854775807), [], [], [])], [(5, 0, 160), (6, 0, 5)])
set_option maxRecDepth 20000 in
abbrev xx_X11_oftenBy_0 : scX := (Tm, invM, lnX11, [(263, 0, 11, cc_X11_yearsOf_0), (266, 0, 11, cc_X11_isByDead_1), (273, 0, 11, cc_X11_wrongBy_0), (287, 0, 11, cc_X11_renewHours_0)], cc_X11_oftenBy_0)
set_option maxRecDepth 20000 in
theorem hh_X11_oftenBy_0 : scH Tm invM cc_X11_oftenBy_0 := scCheck_ok (X := xx_X11_oftenBy_0) (nodes := [(18, ([(0, 7), ((-2147483648), 2147483647), (0, 7), (0, 7), (0, 200), (0, 9)], [some (.inr (.inr (.inl [0]))), some (.inl (some 0, 0)), some (.inl (some 1, 0)), some (.inl (some 2, 0)), some (.inr (.inl ((-9223372036854775808), 9223372036854775807))), none, some (.inl (some 3, 0))], [], [((7, 10), (some 4, 0)), ((4, 4), (some 5, 0))]), ([0, 0, 0, (-2)], 14))]) (fuel := 4000) ⟨lqX11, fa_cons (⟨⟨2, _, pcv_X11_263, rfl⟩, hh_X11_yearsOf_0⟩) (fa_cons (⟨⟨2, _, pcv_X11_266, rfl⟩, hh_X11_isByDead_1⟩) (fa_cons (⟨⟨5, _, pcv_X11_273, rfl⟩, hh_X11_wrongBy_0⟩) (fa_cons (⟨⟨1, _, pcv_X11_287, rfl⟩, hh_X11_renewHours_0⟩) (fa_nil))))⟩ dtX11_oftenBy (by decide +kernel)
abbrev cc_X11_oftenBy_1 : scC := (qX11_oftenBy, 5, [(0, 7), ((-2147483648), 2147483647), ((-2147483648), 2147483647)], [.inr (.inr (.inl [0])), .inl (some 0, 0), .inl (some 1, 0), .inl (some 2, 0)], [], [(2, ((-9223372036854775808), 9223372036854775807), [], [], [])], [(5, 0, 160), (6, 0, 5)])
set_option maxRecDepth 20000 in
abbrev xx_X11_oftenBy_1 : scX := (Tm, invM, lnX11, [(263, 0, 11, cc_X11_yearsOf_0), (266, 0, 11, cc_X11_isByDead_1), (273, 0, 11, cc_X11_wrongBy_0), (287, 0, 11, cc_X11_renewHours_0)], cc_X11_oftenBy_1)
set_option maxRecDepth 20000 in
theorem hh_X11_oftenBy_1 : scH Tm invM cc_X11_oftenBy_1 := scCheck_ok (X := xx_X11_oftenBy_1) (nodes := [(18, ([(0, 7), ((-2147483648), 2147483647), ((-2147483648), 2147483647), (0, 2147483647), (0, 200), (0, 9)], [some (.inr (.inr (.inl [0]))), some (.inl (some 0, 0)), some (.inl (some 1, 0)), some (.inl (some 2, 0)), some (.inr (.inl ((-9223372036854775808), 9223372036854775807))), none, some (.inl (some 3, 0))], [], [((7, 10), (some 4, 0)), ((4, 4), (some 5, 0))]), ([0, 0, 0, (-2)], 4294967294))]) (fuel := 4000) ⟨lqX11, fa_cons (⟨⟨2, _, pcv_X11_263, rfl⟩, hh_X11_yearsOf_0⟩) (fa_cons (⟨⟨2, _, pcv_X11_266, rfl⟩, hh_X11_isByDead_1⟩) (fa_cons (⟨⟨5, _, pcv_X11_273, rfl⟩, hh_X11_wrongBy_0⟩) (fa_cons (⟨⟨1, _, pcv_X11_287, rfl⟩, hh_X11_renewHours_0⟩) (fa_nil))))⟩ dtX11_oftenBy (by decide +kernel)
abbrev cc_X11_often_0 : scC := (qX11_often, 6, [((-2147483648), 2147483647), ((-2147483648), 2147483647)], [.inr (.inr (.inl [0])), .inl (some 0, 0), .inl (some 1, 0)], [], [(1, (0, 2147483647), [], [], [])], [(0, 0, 1), (2, 0, 2), (5, 0, 160), (6, 0, 5)])
set_option maxRecDepth 20000 in
abbrev xx_X11_often_0 : scX := (Tm, invM, lnX11, [(135, 1, 0, cc_X11_in_10), (177, 0, 11, cc_X11_bad_2), (177, 0, 11, cc_X11_bad_5), (177, 0, 11, cc_X11_bad_3), (177, 0, 11, cc_X11_bad_4), (331, 0, 11, cc_X11_isLife_0), (385, 0, 11, cc_X11_oftenBy_0), (385, 0, 11, cc_X11_oftenBy_1)], cc_X11_often_0)
set_option maxRecDepth 20000 in
theorem hh_X11_often_0 : scH Tm invM cc_X11_often_0 := scCheck_ok (X := xx_X11_often_0) (nodes := [(59, ([(0, 7), (0, 999), (1, 2147483647), (2, 31), (0, 0)], [some (.inr (.inr (.inl [0]))), some (.inl (some 0, 0)), some (.inl (some 1, 0)), some (.inl (some 2, 0)), some (.inl (some 3, 0))], [], [((0, 0), (some 4, 0))]), ([0, 0, 0, (-2)], 62))]) (fuel := 4000) ⟨lqX11, fa_cons (⟨pcs_X11_135, hh_X11_in_10⟩) (fa_cons (⟨⟨3, _, pcv_X11_177, rfl⟩, hh_X11_bad_2⟩) (fa_cons (⟨⟨3, _, pcv_X11_177, rfl⟩, hh_X11_bad_5⟩) (fa_cons (⟨⟨3, _, pcv_X11_177, rfl⟩, hh_X11_bad_3⟩) (fa_cons (⟨⟨3, _, pcv_X11_177, rfl⟩, hh_X11_bad_4⟩) (fa_cons (⟨⟨1, _, pcv_X11_331, rfl⟩, hh_X11_isLife_0⟩) (fa_cons (⟨⟨3, _, pcv_X11_385, rfl⟩, hh_X11_oftenBy_0⟩) (fa_cons (⟨⟨3, _, pcv_X11_385, rfl⟩, hh_X11_oftenBy_1⟩) (fa_nil))))))))⟩ dtX11_often (by decide +kernel)
abbrev cc_X11_in_11 : scC := (qX11_in, 0, [((-2147483648), 2147483647), (1, 1), (30, 30)], [.inl (some 0, 0), .inl (some 1, 0), .inl (some 2, 0)], [], [(1, (0, 0), [], [], []), (1, (1, 1), [], [(0, (1, 30))], [])], [])
set_option maxRecDepth 20000 in
abbrev xx_X11_in_11 : scX := (Tm, invM, lnX11, [], cc_X11_in_11)
set_option maxRecDepth 20000 in
theorem hh_X11_in_11 : scH Tm invM cc_X11_in_11 := scCheck_ok (X := xx_X11_in_11) (nodes := []) (fuel := 4000) ⟨lqX11, fa_nil⟩ dtX11_in (by decide +kernel)
abbrev cc_X11_yearly_0 : scC := (qX11_yearly, 6, [((-2147483648), 2147483647), ((-2147483648), 2147483647), ((-2147483648), 2147483647), ((-2147483648), 2147483647)], [.inr (.inr (.inl [0])), .inl (some 0, 0), .inl (some 1, 0), .inl (some 2, 0), .inl (some 3, 0)], [], [(2, ((-9223372036854775808), 9223372036854775807), [], [], [])], [(0, 0, 1), (2, 0, 2), (5, 0, 160), (6, 0, 5)])
set_option maxRecDepth 20000 in
abbrev xx_X11_yearly_0 : scX := (Tm, invM, lnX11, [(135, 1, 0, cc_X11_in_10), (135, 1, 0, cc_X11_in_11), (177, 0, 11, cc_X11_bad_2), (177, 0, 11, cc_X11_bad_5), (177, 0, 11, cc_X11_bad_3), (177, 0, 11, cc_X11_bad_4), (331, 0, 11, cc_X11_isLife_0), (340, 0, 11, cc_X11_noPart_1), (345, 1, 0, cc_hand_partOf), (385, 0, 11, cc_X11_oftenBy_1)], cc_X11_yearly_0)
set_option maxRecDepth 20000 in
theorem hh_X11_yearly_0 : scH Tm invM cc_X11_yearly_0 := scCheck_ok (X := xx_X11_yearly_0) (nodes := []) (fuel := 4000) ⟨lqX11, fa_cons (⟨pcs_X11_135, hh_X11_in_10⟩) (fa_cons (⟨pcs_X11_135, hh_X11_in_11⟩) (fa_cons (⟨⟨3, _, pcv_X11_177, rfl⟩, hh_X11_bad_2⟩) (fa_cons (⟨⟨3, _, pcv_X11_177, rfl⟩, hh_X11_bad_5⟩) (fa_cons (⟨⟨3, _, pcv_X11_177, rfl⟩, hh_X11_bad_3⟩) (fa_cons (⟨⟨3, _, pcv_X11_177, rfl⟩, hh_X11_bad_4⟩) (fa_cons (⟨⟨1, _, pcv_X11_331, rfl⟩, hh_X11_isLife_0⟩) (fa_cons (⟨⟨2, _, pcv_X11_340, rfl⟩, hh_X11_noPart_1⟩) (fa_cons (⟨pcs_X11_345, hh_hand_partOf⟩) (fa_cons (⟨⟨3, _, pcv_X11_385, rfl⟩, hh_X11_oftenBy_1⟩) (fa_nil))))))))))⟩ dtX11_yearly (by decide +kernel)
abbrev cc_X11_in_12 : scC := (qX11_in, 0, [((-2147483648), 2147483647), (0, 0), (16, 16)], [.inl (some 0, 0), .inl (some 1, 0), .inl (some 2, 0)], [], [(1, (0, 0), [], [], []), (1, (1, 1), [], [(0, (0, 16))], [])], [])
set_option maxRecDepth 20000 in
abbrev xx_X11_in_12 : scX := (Tm, invM, lnX11, [], cc_X11_in_12)
set_option maxRecDepth 20000 in
theorem hh_X11_in_12 : scH Tm invM cc_X11_in_12 := scCheck_ok (X := xx_X11_in_12) (nodes := []) (fuel := 4000) ⟨lqX11, fa_nil⟩ dtX11_in (by decide +kernel)
abbrev cc_X11_isRumour_0 : scC := (qX11_isRumour, 1, [((-2147483648), 2147483647), ((-2147483648), 2147483647), ((-2147483648), 2147483647), ((-2147483648), 2147483647)], [.inl (some 0, 0), .inl (some 1, 0), .inl (some 2, 0), .inl (some 3, 0)], [], [(1, (0, 0), [], [], []), (1, (1, 1), [], [(0, (0, 16)), (1, (0, 999)), (2, (0, 999)), (3, (0, 999))], [])], [])
set_option maxRecDepth 20000 in
abbrev xx_X11_isRumour_0 : scX := (Tm, invM, lnX11, [(135, 1, 0, cc_X11_in_12), (135, 1, 0, cc_X11_in_10)], cc_X11_isRumour_0)
set_option maxRecDepth 20000 in
theorem hh_X11_isRumour_0 : scH Tm invM cc_X11_isRumour_0 := scCheck_ok (X := xx_X11_isRumour_0) (nodes := []) (fuel := 4000) ⟨lqX11, fa_cons (⟨pcs_X11_135, hh_X11_in_12⟩) (fa_cons (⟨pcs_X11_135, hh_X11_in_10⟩) (fa_nil))⟩ dtX11_isRumour (by decide +kernel)
abbrev cc_X11_in_13 : scC := (qX11_in, 0, [((-2147483648), 2147483647), (0, 0), (2, 2)], [.inl (some 0, 0), .inl (some 1, 0), .inl (some 2, 0)], [], [(1, (0, 0), [], [], []), (1, (1, 1), [], [(0, (0, 2))], [])], [])
set_option maxRecDepth 20000 in
abbrev xx_X11_in_13 : scX := (Tm, invM, lnX11, [], cc_X11_in_13)
set_option maxRecDepth 20000 in
theorem hh_X11_in_13 : scH Tm invM cc_X11_in_13 := scCheck_ok (X := xx_X11_in_13) (nodes := []) (fuel := 4000) ⟨lqX11, fa_nil⟩ dtX11_in (by decide +kernel)
abbrev cc_X11_bringsBy_0 : scC := (qX11_bringsBy, 0, [(0, 16), (0, 16), (0, 999), (0, 999), (0, 999), (0, 2)], [.inl (some 0, 0), .inl (some 1, 0), .inl (some 2, 0), .inl (some 3, 0), .inl (some 4, 0), .inl (some 5, 0)], [], [(1, ((-2147483648), 2147483647), [], [], [])], [])
set_option maxRecDepth 20000 in
abbrev xx_X11_bringsBy_0 : scX := (Tm, invM, lnX11, [], cc_X11_bringsBy_0)
set_option maxRecDepth 20000 in
theorem hh_X11_bringsBy_0 : scH Tm invM cc_X11_bringsBy_0 := scCheck_ok (X := xx_X11_bringsBy_0) (nodes := []) (fuel := 4000) ⟨lqX11, fa_nil⟩ dtX11_bringsBy (by decide +kernel)
abbrev cc_X11_brings_0 : scC := (qX11_brings, 2, [((-2147483648), 2147483647), ((-2147483648), 2147483647), ((-2147483648), 2147483647), ((-2147483648), 2147483647), ((-2147483648), 2147483647), ((-2147483648), 2147483647)], [.inr (.inr (.inl [0])), .inl (some 0, 0), .inl (some 1, 0), .inl (some 2, 0), .inl (some 3, 0), .inl (some 4, 0), .inl (some 5, 0)], [], [(1, ((-2147483648), 2147483647), [], [], [])], [(0, 0, 1), (2, 1, 1)])
set_option maxRecDepth 20000 in
abbrev xx_X11_brings_0 : scX := (Tm, invM, lnX11, [(135, 1, 0, cc_X11_in_12), (135, 1, 0, cc_X11_in_13), (177, 0, 11, cc_X11_bad_0), (177, 0, 11, cc_X11_bad_1), (389, 1, 0, cc_X11_isRumour_0), (393, 1, 0, cc_X11_bringsBy_0)], cc_X11_brings_0)
set_option maxRecDepth 20000 in
theorem hh_X11_brings_0 : scH Tm invM cc_X11_brings_0 := scCheck_ok (X := xx_X11_brings_0) (nodes := []) (fuel := 4000) ⟨lqX11, fa_cons (⟨pcs_X11_135, hh_X11_in_12⟩) (fa_cons (⟨pcs_X11_135, hh_X11_in_13⟩) (fa_cons (⟨⟨3, _, pcv_X11_177, rfl⟩, hh_X11_bad_0⟩) (fa_cons (⟨⟨3, _, pcv_X11_177, rfl⟩, hh_X11_bad_1⟩) (fa_cons (⟨pcs_X11_389, hh_X11_isRumour_0⟩) (fa_cons (⟨pcs_X11_393, hh_X11_bringsBy_0⟩) (fa_nil))))))⟩ dtX11_brings (by decide +kernel)
abbrev cc_X11_saysBy_0 : scC := (qX11_saysBy, 1, [(0, 16), (0, 16), (0, 999), (0, 999), (0, 999)], [.inl (some 0, 0), .inl (some 1, 0), .inl (some 2, 0), .inl (some 3, 0), .inl (some 4, 0)], [], [(1, (0, 2), [], [], [])], [])
set_option maxRecDepth 20000 in
abbrev xx_X11_saysBy_0 : scX := (Tm, invM, lnX11, [(393, 1, 0, cc_X11_bringsBy_0)], cc_X11_saysBy_0)
set_option maxRecDepth 20000 in
theorem hh_X11_saysBy_0 : scH Tm invM cc_X11_saysBy_0 := scCheck_ok (X := xx_X11_saysBy_0) (nodes := [(6, ([(0, 16), (0, 16), (0, 999), (0, 999), (0, 999), (0, 2), (1, 3)], [some (.inl (some 0, 0)), some (.inl (some 1, 0)), some (.inl (some 2, 0)), some (.inl (some 3, 0)), some (.inl (some 4, 0)), some (.inl (some 5, 0)), some (.inl (some 6, 0))], [], []), ([0, 0, 0, 0, 0, 0, (-2)], 6))]) (fuel := 4000) ⟨lqX11, fa_cons (⟨pcs_X11_393, hh_X11_bringsBy_0⟩) (fa_nil)⟩ dtX11_saysBy (by decide +kernel)
abbrev cc_X11_says_0 : scC := (qX11_says, 2, [((-2147483648), 2147483647), ((-2147483648), 2147483647), ((-2147483648), 2147483647), ((-2147483648), 2147483647), ((-2147483648), 2147483647)], [.inr (.inr (.inl [0])), .inl (some 0, 0), .inl (some 1, 0), .inl (some 2, 0), .inl (some 3, 0), .inl (some 4, 0)], [], [(1, (0, 2), [], [], [])], [(0, 0, 1), (2, 1, 1)])
set_option maxRecDepth 20000 in
abbrev xx_X11_says_0 : scX := (Tm, invM, lnX11, [(135, 1, 0, cc_X11_in_12), (177, 0, 11, cc_X11_bad_0), (177, 0, 11, cc_X11_bad_1), (389, 1, 0, cc_X11_isRumour_0), (397, 1, 0, cc_X11_saysBy_0)], cc_X11_says_0)
set_option maxRecDepth 20000 in
theorem hh_X11_says_0 : scH Tm invM cc_X11_says_0 := scCheck_ok (X := xx_X11_says_0) (nodes := []) (fuel := 4000) ⟨lqX11, fa_cons (⟨pcs_X11_135, hh_X11_in_12⟩) (fa_cons (⟨⟨3, _, pcv_X11_177, rfl⟩, hh_X11_bad_0⟩) (fa_cons (⟨⟨3, _, pcv_X11_177, rfl⟩, hh_X11_bad_1⟩) (fa_cons (⟨pcs_X11_389, hh_X11_isRumour_0⟩) (fa_cons (⟨pcs_X11_397, hh_X11_saysBy_0⟩) (fa_nil)))))⟩ dtX11_says (by decide +kernel)
abbrev cc_X11_line_0 : scC := (qX11_line, 2, [((-2147483648), 2147483647), ((-2147483648), 2147483647), ((-2147483648), 2147483647), ((-2147483648), 2147483647)], [.inr (.inr (.inl [0])), .inl (some 0, 0), .inl (some 1, 0), .inl (some 2, 0), .inl (some 3, 0)], [], [(1, ((-1), 16), [], [], [])], [(0, 0, 1), (2, 1, 1)])
set_option maxRecDepth 20000 in
abbrev xx_X11_line_0 : scX := (Tm, invM, lnX11, [(177, 0, 11, cc_X11_bad_0), (177, 0, 11, cc_X11_bad_1), (389, 1, 0, cc_X11_isRumour_0), (397, 1, 0, cc_X11_saysBy_0)], cc_X11_line_0)
set_option maxRecDepth 20000 in
theorem hh_X11_line_0 : scH Tm invM cc_X11_line_0 := scCheck_ok (X := xx_X11_line_0) (nodes := [(35, ([(0, 16), (0, 999), (0, 999), (0, 999), (0, 17), (0, 0)], [some (.inr (.inr (.inl [0]))), some (.inl (some 0, 0)), some (.inl (some 1, 0)), some (.inl (some 2, 0)), some (.inl (some 3, 0)), some (.inl (some 4, 0))], [], [((0, 0), (some 5, 0))]), ([0, 0, 0, 0, (-2)], 34))]) (fuel := 4000) ⟨lqX11, fa_cons (⟨⟨3, _, pcv_X11_177, rfl⟩, hh_X11_bad_0⟩) (fa_cons (⟨⟨3, _, pcv_X11_177, rfl⟩, hh_X11_bad_1⟩) (fa_cons (⟨pcs_X11_389, hh_X11_isRumour_0⟩) (fa_cons (⟨pcs_X11_397, hh_X11_saysBy_0⟩) (fa_nil))))⟩ dtX11_line (by decide +kernel)
abbrev cc_X11_in_14 : scC := (qX11_in, 0, [((-2147483648), 2147483647), (0, 0), ((-2147483648), 2147483647)], [.inl (some 0, 0), .inl (some 1, 0), .inl (some 2, 0)], [], [(1, (0, 0), [], [], []), (1, (1, 1), [], [(0, (0, 2147483647)), (2, (0, 2147483647))], [])], [])
set_option maxRecDepth 20000 in
abbrev xx_X11_in_14 : scX := (Tm, invM, lnX11, [], cc_X11_in_14)
set_option maxRecDepth 20000 in
theorem hh_X11_in_14 : scH Tm invM cc_X11_in_14 := scCheck_ok (X := xx_X11_in_14) (nodes := []) (fuel := 4000) ⟨lqX11, fa_nil⟩ dtX11_in (by decide +kernel)
abbrev cc_X11_areLives_0 : scC := (qX11_areLives, 1, [((-2147483648), 2147483647)], [.inr (.inr (.inl [0])), .inl (some 0, 0)], [], [(1, (0, 0), [], [], []), (1, (1, 1), [], [(0, (0, 2147483647))], [])], [])
set_option maxRecDepth 20000 in
abbrev xx_X11_areLives_0 : scX := (Tm, invM, lnX11, [(135, 1, 0, cc_X11_in_14)], cc_X11_areLives_0)
set_option maxRecDepth 20000 in
theorem hh_X11_areLives_0 : scH Tm invM cc_X11_areLives_0 := scCheck_ok (X := xx_X11_areLives_0) (nodes := []) (fuel := 4000) ⟨lqX11, fa_cons (⟨pcs_X11_135, hh_X11_in_14⟩) (fa_nil)⟩ dtX11_areLives (by decide +kernel)
abbrev cc_X11_rooms_0 : scC := (qX11_rooms, 0, [((-2147483648), 2147483647), ((-2147483648), 2147483647), ((-2147483648), 2147483647)], [.inr (.inr (.inl [0])), .inl (none, 8), .inl (some 0, 0), .inl (some 1, 0), .inl (some 2, 0)], [((4, 0), (none, 8))], [(0, (0, 0), [], [], [])], [(0, 46, 1), (15, 0, 8)])
set_option maxRecDepth 20000 in
abbrev xx_X11_rooms_0 : scX := (Tm, invM, lnX11, [], cc_X11_rooms_0)
set_option maxRecDepth 20000 in
theorem hh_X11_rooms_0 : scH Tm invM cc_X11_rooms_0 := scCheck_ok (X := xx_X11_rooms_0) (nodes := [(29, ([(8, 8), ((-2147483648), 2147483647), ((-2147483648), 2147483647), ((-2147483647), 2147483647), (0, 8), ((-2147483647), 2147483647), (8, 8), (0, 99), (0, 99)], [some (.inr (.inr (.inl [0]))), some (.inl (some 0, 0)), some (.inl (some 1, 0)), some (.inl (some 2, 0)), some (.inl (some 3, 0)), some (.inl (some 4, 0))], [], [((0, 46), (some 5, 0)), ((4, 0), (some 6, 0)), ((15, 0), (some 7, 0)), ((14, 0), (some 8, 0))]), ([0, 0, 0, 0, (-2)], 16))]) (fuel := 4000) ⟨lqX11, fa_nil⟩ dtX11_rooms (by decide +kernel)
abbrev cc_X11_rooms_1 : scC := (qX11_rooms, 1, [((-2147483648), 2147483647), ((-2147483648), 2147483647), ((-2147483648), 2147483647), (7, 8)], [.inr (.inr (.inl [0])), .inl (none, 7), .inl (some 0, 0), .inl (some 1, 0), .inl (some 2, 0)], [((4, 0), (some 3, 0))], [(0, (0, 0), [], [], [])], [(0, 46, 1), (14, 7, 1), (15, 0, 8)])
set_option maxRecDepth 20000 in
abbrev xx_X11_rooms_1 : scX := (Tm, invM, lnX11, [(256, 1, 0, cc_X11_has_0), (403, 0, 11, cc_X11_rooms_0)], cc_X11_rooms_1)
set_option maxRecDepth 20000 in
theorem hh_X11_rooms_1 : scH Tm invM cc_X11_rooms_1 := scCheck_ok (X := xx_X11_rooms_1) (nodes := [(29, ([(7, 7), ((-2147483648), 2147483647), ((-2147483648), 2147483647), ((-2147483647), 2147483647), (0, 8), ((-2147483647), 2147483647), (7, 7), (0, 99), (0, 99)], [some (.inr (.inr (.inl [0]))), some (.inl (some 0, 0)), some (.inl (some 1, 0)), some (.inl (some 2, 0)), some (.inl (some 3, 0)), some (.inl (some 4, 0))], [], [((0, 46), (some 5, 0)), ((4, 0), (some 6, 0)), ((15, 0), (some 7, 0)), ((14, 0), (some 8, 0))]), ([0, 0, 0, 0, (-2)], 16))]) (fuel := 4000) ⟨lqX11, fa_cons (⟨pcs_X11_256, hh_X11_has_0⟩) (fa_cons (⟨⟨4, _, pcv_X11_403, rfl⟩, hh_X11_rooms_0⟩) (fa_nil))⟩ dtX11_rooms (by decide +kernel)
abbrev cc_X11_rooms_2 : scC := (qX11_rooms, 2, [((-2147483648), 2147483647), ((-2147483648), 2147483647), ((-2147483648), 2147483647), (6, 8)], [.inr (.inr (.inl [0])), .inl (none, 6), .inl (some 0, 0), .inl (some 1, 0), .inl (some 2, 0)], [((4, 0), (some 3, 0))], [(0, (0, 0), [], [], [])], [(0, 46, 1), (14, 6, 2), (15, 0, 8)])
set_option maxRecDepth 20000 in
abbrev xx_X11_rooms_2 : scX := (Tm, invM, lnX11, [(256, 1, 0, cc_X11_has_0), (403, 0, 11, cc_X11_rooms_1)], cc_X11_rooms_2)
set_option maxRecDepth 20000 in
theorem hh_X11_rooms_2 : scH Tm invM cc_X11_rooms_2 := scCheck_ok (X := xx_X11_rooms_2) (nodes := [(29, ([(6, 6), ((-2147483648), 2147483647), ((-2147483648), 2147483647), ((-2147483647), 2147483647), (0, 8), ((-2147483647), 2147483647), (6, 6), (0, 99), (0, 99)], [some (.inr (.inr (.inl [0]))), some (.inl (some 0, 0)), some (.inl (some 1, 0)), some (.inl (some 2, 0)), some (.inl (some 3, 0)), some (.inl (some 4, 0))], [], [((0, 46), (some 5, 0)), ((4, 0), (some 6, 0)), ((15, 0), (some 7, 0)), ((14, 0), (some 8, 0))]), ([0, 0, 0, 0, (-2)], 16))]) (fuel := 4000) ⟨lqX11, fa_cons (⟨pcs_X11_256, hh_X11_has_0⟩) (fa_cons (⟨⟨4, _, pcv_X11_403, rfl⟩, hh_X11_rooms_1⟩) (fa_nil))⟩ dtX11_rooms (by decide +kernel)
abbrev cc_X11_rooms_3 : scC := (qX11_rooms, 3, [((-2147483648), 2147483647), ((-2147483648), 2147483647), ((-2147483648), 2147483647), (5, 8)], [.inr (.inr (.inl [0])), .inl (none, 5), .inl (some 0, 0), .inl (some 1, 0), .inl (some 2, 0)], [((4, 0), (some 3, 0))], [(0, (0, 0), [], [], [])], [(0, 46, 1), (14, 5, 3), (15, 0, 8)])
set_option maxRecDepth 20000 in
abbrev xx_X11_rooms_3 : scX := (Tm, invM, lnX11, [(256, 1, 0, cc_X11_has_0), (403, 0, 11, cc_X11_rooms_2)], cc_X11_rooms_3)
set_option maxRecDepth 20000 in
theorem hh_X11_rooms_3 : scH Tm invM cc_X11_rooms_3 := scCheck_ok (X := xx_X11_rooms_3) (nodes := [(29, ([(5, 5), ((-2147483648), 2147483647), ((-2147483648), 2147483647), ((-2147483647), 2147483647), (0, 8), ((-2147483647), 2147483647), (5, 5), (0, 99), (0, 99)], [some (.inr (.inr (.inl [0]))), some (.inl (some 0, 0)), some (.inl (some 1, 0)), some (.inl (some 2, 0)), some (.inl (some 3, 0)), some (.inl (some 4, 0))], [], [((0, 46), (some 5, 0)), ((4, 0), (some 6, 0)), ((15, 0), (some 7, 0)), ((14, 0), (some 8, 0))]), ([0, 0, 0, 0, (-2)], 16))]) (fuel := 4000) ⟨lqX11, fa_cons (⟨pcs_X11_256, hh_X11_has_0⟩) (fa_cons (⟨⟨4, _, pcv_X11_403, rfl⟩, hh_X11_rooms_2⟩) (fa_nil))⟩ dtX11_rooms (by decide +kernel)
abbrev cc_X11_rooms_4 : scC := (qX11_rooms, 4, [((-2147483648), 2147483647), ((-2147483648), 2147483647), ((-2147483648), 2147483647), (4, 8)], [.inr (.inr (.inl [0])), .inl (none, 4), .inl (some 0, 0), .inl (some 1, 0), .inl (some 2, 0)], [((4, 0), (some 3, 0))], [(0, (0, 0), [], [], [])], [(0, 46, 1), (14, 4, 4), (15, 0, 8)])
set_option maxRecDepth 20000 in
abbrev xx_X11_rooms_4 : scX := (Tm, invM, lnX11, [(256, 1, 0, cc_X11_has_0), (403, 0, 11, cc_X11_rooms_3)], cc_X11_rooms_4)
set_option maxRecDepth 20000 in
theorem hh_X11_rooms_4 : scH Tm invM cc_X11_rooms_4 := scCheck_ok (X := xx_X11_rooms_4) (nodes := [(29, ([(4, 4), ((-2147483648), 2147483647), ((-2147483648), 2147483647), ((-2147483647), 2147483647), (0, 8), ((-2147483647), 2147483647), (4, 4), (0, 99), (0, 99)], [some (.inr (.inr (.inl [0]))), some (.inl (some 0, 0)), some (.inl (some 1, 0)), some (.inl (some 2, 0)), some (.inl (some 3, 0)), some (.inl (some 4, 0))], [], [((0, 46), (some 5, 0)), ((4, 0), (some 6, 0)), ((15, 0), (some 7, 0)), ((14, 0), (some 8, 0))]), ([0, 0, 0, 0, (-2)], 16))]) (fuel := 4000) ⟨lqX11, fa_cons (⟨pcs_X11_256, hh_X11_has_0⟩) (fa_cons (⟨⟨4, _, pcv_X11_403, rfl⟩, hh_X11_rooms_3⟩) (fa_nil))⟩ dtX11_rooms (by decide +kernel)
abbrev cc_X11_rooms_5 : scC := (qX11_rooms, 5, [((-2147483648), 2147483647), ((-2147483648), 2147483647), ((-2147483648), 2147483647), (3, 8)], [.inr (.inr (.inl [0])), .inl (none, 3), .inl (some 0, 0), .inl (some 1, 0), .inl (some 2, 0)], [((4, 0), (some 3, 0))], [(0, (0, 0), [], [], [])], [(0, 46, 1), (14, 3, 5), (15, 0, 8)])
set_option maxRecDepth 20000 in
abbrev xx_X11_rooms_5 : scX := (Tm, invM, lnX11, [(256, 1, 0, cc_X11_has_0), (403, 0, 11, cc_X11_rooms_4)], cc_X11_rooms_5)
set_option maxRecDepth 20000 in
theorem hh_X11_rooms_5 : scH Tm invM cc_X11_rooms_5 := scCheck_ok (X := xx_X11_rooms_5) (nodes := [(29, ([(3, 3), ((-2147483648), 2147483647), ((-2147483648), 2147483647), ((-2147483647), 2147483647), (0, 8), ((-2147483647), 2147483647), (3, 3), (0, 99), (0, 99)], [some (.inr (.inr (.inl [0]))), some (.inl (some 0, 0)), some (.inl (some 1, 0)), some (.inl (some 2, 0)), some (.inl (some 3, 0)), some (.inl (some 4, 0))], [], [((0, 46), (some 5, 0)), ((4, 0), (some 6, 0)), ((15, 0), (some 7, 0)), ((14, 0), (some 8, 0))]), ([0, 0, 0, 0, (-2)], 16))]) (fuel := 4000) ⟨lqX11, fa_cons (⟨pcs_X11_256, hh_X11_has_0⟩) (fa_cons (⟨⟨4, _, pcv_X11_403, rfl⟩, hh_X11_rooms_4⟩) (fa_nil))⟩ dtX11_rooms (by decide +kernel)
abbrev cc_X11_rooms_6 : scC := (qX11_rooms, 6, [((-2147483648), 2147483647), ((-2147483648), 2147483647), ((-2147483648), 2147483647), (2, 8)], [.inr (.inr (.inl [0])), .inl (none, 2), .inl (some 0, 0), .inl (some 1, 0), .inl (some 2, 0)], [((4, 0), (some 3, 0))], [(0, (0, 0), [], [], [])], [(0, 46, 1), (14, 2, 6), (15, 0, 8)])
set_option maxRecDepth 20000 in
abbrev xx_X11_rooms_6 : scX := (Tm, invM, lnX11, [(256, 1, 0, cc_X11_has_0), (403, 0, 11, cc_X11_rooms_5)], cc_X11_rooms_6)
set_option maxRecDepth 20000 in
theorem hh_X11_rooms_6 : scH Tm invM cc_X11_rooms_6 := scCheck_ok (X := xx_X11_rooms_6) (nodes := [(29, ([(2, 2), ((-2147483648), 2147483647), ((-2147483648), 2147483647), ((-2147483647), 2147483647), (0, 8), ((-2147483647), 2147483647), (2, 2), (0, 99), (0, 99)], [some (.inr (.inr (.inl [0]))), some (.inl (some 0, 0)), some (.inl (some 1, 0)), some (.inl (some 2, 0)), some (.inl (some 3, 0)), some (.inl (some 4, 0))], [], [((0, 46), (some 5, 0)), ((4, 0), (some 6, 0)), ((15, 0), (some 7, 0)), ((14, 0), (some 8, 0))]), ([0, 0, 0, 0, (-2)], 16))]) (fuel := 4000) ⟨lqX11, fa_cons (⟨pcs_X11_256, hh_X11_has_0⟩) (fa_cons (⟨⟨4, _, pcv_X11_403, rfl⟩, hh_X11_rooms_5⟩) (fa_nil))⟩ dtX11_rooms (by decide +kernel)
abbrev cc_X11_rooms_7 : scC := (qX11_rooms, 7, [((-2147483648), 2147483647), ((-2147483648), 2147483647), ((-2147483648), 2147483647), (1, 8)], [.inr (.inr (.inl [0])), .inl (none, 1), .inl (some 0, 0), .inl (some 1, 0), .inl (some 2, 0)], [((4, 0), (some 3, 0))], [(0, (0, 0), [], [], [])], [(0, 46, 1), (14, 1, 7), (15, 0, 8)])
set_option maxRecDepth 20000 in
abbrev xx_X11_rooms_7 : scX := (Tm, invM, lnX11, [(256, 1, 0, cc_X11_has_0), (403, 0, 11, cc_X11_rooms_6)], cc_X11_rooms_7)
set_option maxRecDepth 20000 in
theorem hh_X11_rooms_7 : scH Tm invM cc_X11_rooms_7 := scCheck_ok (X := xx_X11_rooms_7) (nodes := [(29, ([(1, 1), ((-2147483648), 2147483647), ((-2147483648), 2147483647), ((-2147483647), 2147483647), (0, 8), ((-2147483647), 2147483647), (1, 1), (0, 99), (0, 99)], [some (.inr (.inr (.inl [0]))), some (.inl (some 0, 0)), some (.inl (some 1, 0)), some (.inl (some 2, 0)), some (.inl (some 3, 0)), some (.inl (some 4, 0))], [], [((0, 46), (some 5, 0)), ((4, 0), (some 6, 0)), ((15, 0), (some 7, 0)), ((14, 0), (some 8, 0))]), ([0, 0, 0, 0, (-2)], 16))]) (fuel := 4000) ⟨lqX11, fa_cons (⟨pcs_X11_256, hh_X11_has_0⟩) (fa_cons (⟨⟨4, _, pcv_X11_403, rfl⟩, hh_X11_rooms_6⟩) (fa_nil))⟩ dtX11_rooms (by decide +kernel)
abbrev cc_X11_rooms_8 : scC := (qX11_rooms, 8, [((-2147483648), 2147483647), ((-2147483648), 2147483647), ((-2147483648), 2147483647), (0, 8)], [.inr (.inr (.inl [0])), .inl (none, 0), .inl (some 0, 0), .inl (some 1, 0), .inl (some 2, 0)], [((4, 0), (some 3, 0))], [(0, (0, 0), [], [], [])], [(0, 46, 1), (14, 0, 8), (15, 0, 8)])
set_option maxRecDepth 20000 in
abbrev xx_X11_rooms_8 : scX := (Tm, invM, lnX11, [(256, 1, 0, cc_X11_has_0), (403, 0, 11, cc_X11_rooms_7)], cc_X11_rooms_8)
set_option maxRecDepth 20000 in
theorem hh_X11_rooms_8 : scH Tm invM cc_X11_rooms_8 := scCheck_ok (X := xx_X11_rooms_8) (nodes := [(29, ([(0, 0), ((-2147483648), 2147483647), ((-2147483648), 2147483647), ((-2147483647), 2147483647), (0, 8), ((-2147483647), 2147483647), (0, 0), (0, 99), (0, 99)], [some (.inr (.inr (.inl [0]))), some (.inl (some 0, 0)), some (.inl (some 1, 0)), some (.inl (some 2, 0)), some (.inl (some 3, 0)), some (.inl (some 4, 0))], [], [((0, 46), (some 5, 0)), ((4, 0), (some 6, 0)), ((15, 0), (some 7, 0)), ((14, 0), (some 8, 0))]), ([0, 0, 0, 0, (-2)], 16))]) (fuel := 4000) ⟨lqX11, fa_cons (⟨pcs_X11_256, hh_X11_has_0⟩) (fa_cons (⟨⟨4, _, pcv_X11_403, rfl⟩, hh_X11_rooms_7⟩) (fa_nil))⟩ dtX11_rooms (by decide +kernel)
abbrev cc_X11_laysRoom_0 : scC := (qX11_laysRoom, 9, [((-2147483648), 2147483647), ((-2147483648), 2147483647)], [.inr (.inr (.inl [0])), .inl (some 0, 0), .inl (some 1, 0)], [], [(0, (0, 0), [], [], [])], [(0, 46, 1), (14, 0, 8), (15, 0, 8)])
set_option maxRecDepth 20000 in
abbrev xx_X11_laysRoom_0 : scX := (Tm, invM, lnX11, [(403, 0, 11, cc_X11_rooms_8)], cc_X11_laysRoom_0)
set_option maxRecDepth 20000 in
theorem hh_X11_laysRoom_0 : scH Tm invM cc_X11_laysRoom_0 := scCheck_ok (X := xx_X11_laysRoom_0) (nodes := [(7, ([((-2147483648), 2147483647), ((-2147483648), 2147483647), (0, 8), ((-1), (-1)), (0, 99)], [some (.inr (.inr (.inl [0]))), some (.inl (some 0, 0)), some (.inl (some 1, 0)), some (.inl (some 2, 0))], [], [((0, 46), (some 3, 0)), ((14, 0), (some 4, 0))]), ([0, 0, (-2)], 16))]) (fuel := 4000) ⟨lqX11, fa_cons (⟨⟨4, _, pcv_X11_403, rfl⟩, hh_X11_rooms_8⟩) (fa_nil)⟩ dtX11_laysRoom (by decide +kernel)
abbrev cc_X11_room_0 : scC := (qX11_room, 10, [((-2147483648), 2147483647), ((-2147483648), 2147483647)], [.inr (.inr (.inl [0])), .inl (some 0, 0), .inl (some 1, 0)], [], [(1, ((-2147483648), 2147483647), [], [], [])], [(0, 0, 1), (0, 46, 1), (2, 1, 1), (14, 0, 8), (15, 0, 8)])
set_option maxRecDepth 20000 in
abbrev xx_X11_room_0 : scX := (Tm, invM, lnX11, [(135, 1, 0, cc_X11_in_3), (177, 0, 11, cc_X11_bad_0), (177, 0, 11, cc_X11_bad_1), (407, 0, 11, cc_X11_areLives_0), (410, 0, 11, cc_X11_laysRoom_0)], cc_X11_room_0)
set_option maxRecDepth 20000 in
theorem hh_X11_room_0 : scH Tm invM cc_X11_room_0 := scCheck_ok (X := xx_X11_room_0) (nodes := []) (fuel := 4000) ⟨lqX11, fa_cons (⟨pcs_X11_135, hh_X11_in_3⟩) (fa_cons (⟨⟨3, _, pcv_X11_177, rfl⟩, hh_X11_bad_0⟩) (fa_cons (⟨⟨3, _, pcv_X11_177, rfl⟩, hh_X11_bad_1⟩) (fa_cons (⟨⟨1, _, pcv_X11_407, rfl⟩, hh_X11_areLives_0⟩) (fa_cons (⟨⟨2, _, pcv_X11_410, rfl⟩, hh_X11_laysRoom_0⟩) (fa_nil)))))⟩ dtX11_room (by decide +kernel)
abbrev cc_X11_lines_0 : scC := (qX11_lines, 10, [((-2147483648), 2147483647), ((-2147483648), 2147483647), ((-2147483648), 2147483647)], [.inr (.inr (.inl [0])), .inl (some 0, 0), .inl (some 1, 0), .inl (some 2, 0)], [], [(1, (0, 99), [], [], [])], [(0, 0, 1), (0, 46, 1), (2, 0, 2), (14, 0, 8), (15, 0, 8)])
set_option maxRecDepth 20000 in
abbrev xx_X11_lines_0 : scX := (Tm, invM, lnX11, [(135, 1, 0, cc_X11_in_3), (177, 0, 11, cc_X11_bad_2), (177, 0, 11, cc_X11_bad_5), (177, 0, 11, cc_X11_bad_3), (177, 0, 11, cc_X11_bad_4), (331, 0, 11, cc_X11_isLife_0), (407, 0, 11, cc_X11_areLives_0), (410, 0, 11, cc_X11_laysRoom_0)], cc_X11_lines_0)
set_option maxRecDepth 20000 in
theorem hh_X11_lines_0 : scH Tm invM cc_X11_lines_0 := scCheck_ok (X := xx_X11_lines_0) (nodes := []) (fuel := 4000) ⟨lqX11, fa_cons (⟨pcs_X11_135, hh_X11_in_3⟩) (fa_cons (⟨⟨3, _, pcv_X11_177, rfl⟩, hh_X11_bad_2⟩) (fa_cons (⟨⟨3, _, pcv_X11_177, rfl⟩, hh_X11_bad_5⟩) (fa_cons (⟨⟨3, _, pcv_X11_177, rfl⟩, hh_X11_bad_3⟩) (fa_cons (⟨⟨3, _, pcv_X11_177, rfl⟩, hh_X11_bad_4⟩) (fa_cons (⟨⟨1, _, pcv_X11_331, rfl⟩, hh_X11_isLife_0⟩) (fa_cons (⟨⟨1, _, pcv_X11_407, rfl⟩, hh_X11_areLives_0⟩) (fa_cons (⟨⟨2, _, pcv_X11_410, rfl⟩, hh_X11_laysRoom_0⟩) (fa_nil))))))))⟩ dtX11_lines (by decide +kernel)
abbrev cc_X11_isApart_0 : scC := (qX11_isApart, 1, [((-2147483648), 2147483647), ((-2147483648), 2147483647)], [.inr (.inr (.inl [0])), .inl (some 0, 0), .inl (some 1, 0)], [], [(1, (0, 1), [], [], [])], [])
set_option maxRecDepth 20000 in
abbrev xx_X11_isApart_0 : scX := (Tm, invM, lnX11, [(256, 1, 0, cc_X11_has_0), (334, 0, 11, cc_X11_factsAt_0)], cc_X11_isApart_0)
set_option maxRecDepth 20000 in
theorem hh_X11_isApart_0 : scH Tm invM cc_X11_isApart_0 := scCheck_ok (X := xx_X11_isApart_0) (nodes := [(2, ([((-2147483648), 2147483647), ((-2147483648), 2147483647), (0, 8), (0, 8), (0, 200)], [some (.inr (.inr (.inl [0]))), some (.inl (some 0, 0)), some (.inl (some 1, 0)), some (.inl (some 2, 0)), none], [], [((4, 0), (some 3, 0)), ((7, 10), (some 4, 0))]), ([0, 0, (-18)], 160)), (15, ([((-2147483648), 2147483647), ((-2147483648), 2147483647), (0, 7), (0, 7), (1, 8), (0, 200)], [some (.inr (.inr (.inl [0]))), some (.inl (some 0, 0)), some (.inl (some 1, 0)), some (.inl (some 2, 0)), some (.inl (some 3, 0))], [], [((4, 0), (some 4, 0)), ((7, 10), (some 5, 0))]), ([0, 0, (-18), (-2)], 158))]) (fuel := 4000) ⟨lqX11, fa_cons (⟨pcs_X11_256, hh_X11_has_0⟩) (fa_cons (⟨⟨2, _, pcv_X11_334, rfl⟩, hh_X11_factsAt_0⟩) (fa_nil))⟩ dtX11_isApart (by decide +kernel)
abbrev cc_X11_ones_0 : scC := (qX11_ones, 0, [(0, 1)], [.inl (some 0, 0)], [], [(1, ((-2147483648), 2147483647), [], [], [])], [])
set_option maxRecDepth 20000 in
abbrev xx_X11_ones_0 : scX := (Tm, invM, lnX11, [], cc_X11_ones_0)
set_option maxRecDepth 20000 in
theorem hh_X11_ones_0 : scH Tm invM cc_X11_ones_0 := scCheck_ok (X := xx_X11_ones_0) (nodes := [(4, ([(0, 1), ((-2147483648), 2147483647), (0, 8)], [some (.inl (some 0, 0)), some (.inl (some 1, 0)), some (.inl (some 2, 0))], [], []), ([0, 0, (-2)], 16))]) (fuel := 4000) ⟨lqX11, fa_nil⟩ dtX11_ones (by decide +kernel)
abbrev cc_X11_ones_1 : scC := (qX11_ones, 0, [(0, 2)], [.inl (some 0, 0)], [], [(1, ((-2147483648), 2147483647), [], [], [])], [])
set_option maxRecDepth 20000 in
abbrev xx_X11_ones_1 : scX := (Tm, invM, lnX11, [], cc_X11_ones_1)
set_option maxRecDepth 20000 in
theorem hh_X11_ones_1 : scH Tm invM cc_X11_ones_1 := scCheck_ok (X := xx_X11_ones_1) (nodes := [(4, ([(0, 2), ((-2147483648), 2147483647), (0, 8)], [some (.inl (some 0, 0)), some (.inl (some 1, 0)), some (.inl (some 2, 0))], [], []), ([0, 0, (-2)], 16))]) (fuel := 4000) ⟨lqX11, fa_nil⟩ dtX11_ones (by decide +kernel)
abbrev cc_X11_ones_2 : scC := (qX11_ones, 0, [(0, 7)], [.inl (some 0, 0)], [], [(1, ((-2147483648), 2147483647), [], [], [])], [])
set_option maxRecDepth 20000 in
abbrev xx_X11_ones_2 : scX := (Tm, invM, lnX11, [], cc_X11_ones_2)
set_option maxRecDepth 20000 in
theorem hh_X11_ones_2 : scH Tm invM cc_X11_ones_2 := scCheck_ok (X := xx_X11_ones_2) (nodes := [(4, ([(0, 7), ((-2147483648), 2147483647), (0, 8)], [some (.inl (some 0, 0)), some (.inl (some 1, 0)), some (.inl (some 2, 0))], [], []), ([0, 0, (-2)], 16))]) (fuel := 4000) ⟨lqX11, fa_nil⟩ dtX11_ones (by decide +kernel)
abbrev cc_X11_ones_3 : scC := (qX11_ones, 0, [(0, 8)], [.inl (some 0, 0)], [], [(1, ((-2147483648), 2147483647), [], [], [])], [])
set_option maxRecDepth 20000 in
abbrev xx_X11_ones_3 : scX := (Tm, invM, lnX11, [], cc_X11_ones_3)
set_option maxRecDepth 20000 in
theorem hh_X11_ones_3 : scH Tm invM cc_X11_ones_3 := scCheck_ok (X := xx_X11_ones_3) (nodes := [(4, ([(0, 8), ((-2147483648), 2147483647), (0, 8)], [some (.inl (some 0, 0)), some (.inl (some 1, 0)), some (.inl (some 2, 0))], [], []), ([0, 0, (-2)], 16))]) (fuel := 4000) ⟨lqX11, fa_nil⟩ dtX11_ones (by decide +kernel)
abbrev cc_X11_ones_4 : scC := (qX11_ones, 0, [(0, 16)], [.inl (some 0, 0)], [], [(1, ((-2147483648), 2147483647), [], [], [])], [])
set_option maxRecDepth 20000 in
abbrev xx_X11_ones_4 : scX := (Tm, invM, lnX11, [], cc_X11_ones_4)
set_option maxRecDepth 20000 in
theorem hh_X11_ones_4 : scH Tm invM cc_X11_ones_4 := scCheck_ok (X := xx_X11_ones_4) (nodes := [(4, ([(0, 16), ((-2147483648), 2147483647), (0, 8)], [some (.inl (some 0, 0)), some (.inl (some 1, 0)), some (.inl (some 2, 0))], [], []), ([0, 0, (-2)], 16))]) (fuel := 4000) ⟨lqX11, fa_nil⟩ dtX11_ones (by decide +kernel)
abbrev cc_X11_ones_5 : scC := (qX11_ones, 0, [(0, 63)], [.inl (some 0, 0)], [], [(1, ((-2147483648), 2147483647), [], [], [])], [])
set_option maxRecDepth 20000 in
abbrev xx_X11_ones_5 : scX := (Tm, invM, lnX11, [], cc_X11_ones_5)
set_option maxRecDepth 20000 in
theorem hh_X11_ones_5 : scH Tm invM cc_X11_ones_5 := scCheck_ok (X := xx_X11_ones_5) (nodes := [(4, ([(0, 63), ((-2147483648), 2147483647), (0, 8)], [some (.inl (some 0, 0)), some (.inl (some 1, 0)), some (.inl (some 2, 0))], [], []), ([0, 0, (-2)], 16))]) (fuel := 4000) ⟨lqX11, fa_nil⟩ dtX11_ones (by decide +kernel)
abbrev cc_X11_ones_6 : scC := (qX11_ones, 0, [(0, 2147483647)], [.inl (some 0, 0)], [], [(1, ((-2147483648), 2147483647), [], [], [])], [])
set_option maxRecDepth 20000 in
abbrev xx_X11_ones_6 : scX := (Tm, invM, lnX11, [], cc_X11_ones_6)
set_option maxRecDepth 20000 in
theorem hh_X11_ones_6 : scH Tm invM cc_X11_ones_6 := scCheck_ok (X := xx_X11_ones_6) (nodes := [(4, ([(0, 2147483647), ((-2147483648), 2147483647), (0, 8)], [some (.inl (some 0, 0)), some (.inl (some 1, 0)), some (.inl (some 2, 0))], [], []), ([0, 0, (-2)], 16))]) (fuel := 4000) ⟨lqX11, fa_nil⟩ dtX11_ones (by decide +kernel)
abbrev cc_X11_apart_0 : scC := (qX11_apart, 2, [((-2147483648), 2147483647), ((-2147483648), 2147483647)], [.inr (.inr (.inl [0])), .inl (some 0, 0), .inl (some 1, 0)], [], [(1, ((-2147483648), 2147483647), [], [], [])], [(0, 0, 1), (2, 1, 1)])
set_option maxRecDepth 20000 in
abbrev xx_X11_apart_0 : scX := (Tm, invM, lnX11, [(135, 1, 0, cc_X11_in_5), (177, 0, 11, cc_X11_bad_0), (177, 0, 11, cc_X11_bad_1), (407, 0, 11, cc_X11_areLives_0), (413, 0, 11, cc_X11_isApart_0), (416, 1, 0, cc_X11_ones_0), (416, 1, 0, cc_X11_ones_1), (416, 1, 0, cc_X11_ones_2), (416, 1, 0, cc_X11_ones_3), (416, 1, 0, cc_X11_ones_4), (416, 1, 0, cc_X11_ones_5), (416, 1, 0, cc_X11_ones_6)], cc_X11_apart_0)
set_option maxRecDepth 20000 in
theorem hh_X11_apart_0 : scH Tm invM cc_X11_apart_0 := scCheck_ok (X := xx_X11_apart_0) (nodes := [(43, ([(0, 2147483647), (0, 1), ((-1), 2147483647), (0, 64), (0, 0)], [some (.inr (.inr (.inl [0]))), some (.inl (some 0, 0)), some (.inl (some 1, 0)), some (.inl (some 2, 0)), some (.inl (some 3, 0))], [], [((0, 0), (some 4, 0))]), ([0, 0, 0, (-2)], 128))]) (fuel := 4000) ⟨lqX11, fa_cons (⟨pcs_X11_135, hh_X11_in_5⟩) (fa_cons (⟨⟨3, _, pcv_X11_177, rfl⟩, hh_X11_bad_0⟩) (fa_cons (⟨⟨3, _, pcv_X11_177, rfl⟩, hh_X11_bad_1⟩) (fa_cons (⟨⟨1, _, pcv_X11_407, rfl⟩, hh_X11_areLives_0⟩) (fa_cons (⟨⟨2, _, pcv_X11_413, rfl⟩, hh_X11_isApart_0⟩) (fa_cons (⟨pcs_X11_416, hh_X11_ones_0⟩) (fa_cons (⟨pcs_X11_416, hh_X11_ones_1⟩) (fa_cons (⟨pcs_X11_416, hh_X11_ones_2⟩) (fa_cons (⟨pcs_X11_416, hh_X11_ones_3⟩) (fa_cons (⟨pcs_X11_416, hh_X11_ones_4⟩) (fa_cons (⟨pcs_X11_416, hh_X11_ones_5⟩) (fa_cons (⟨pcs_X11_416, hh_X11_ones_6⟩) (fa_nil))))))))))))⟩ dtX11_apart (by decide +kernel)
abbrev cc_X11_twins_0 : scC := (qX11_twins, 1, [], [.inr (.inr (.inl [0]))], [], [(1, ((-1), 77), [], [], [])], [(0, 0, 1)])
set_option maxRecDepth 20000 in
abbrev xx_X11_twins_0 : scX := (Tm, invM, lnX11, [(334, 0, 11, cc_X11_factsAt_0)], cc_X11_twins_0)
set_option maxRecDepth 20000 in
theorem hh_X11_twins_0 : scH Tm invM cc_X11_twins_0 := scCheck_ok (X := xx_X11_twins_0) (nodes := [(7, ([(0, 8), (0, 0), (0, 8), (0, 200)], [some (.inr (.inr (.inl [0]))), some (.inl (some 0, 0)), none], [], [((0, 0), (some 1, 0)), ((4, 0), (some 2, 0)), ((7, 10), (some 3, 0))]), ([(-18)], 160)), (21, ([(0, 7), (1, 8), (1, 8), (0, 0), (0, 200)], [some (.inr (.inr (.inl [0]))), some (.inl (some 0, 0)), some (.inl (some 1, 0))], [], [((4, 0), (some 2, 0)), ((0, 0), (some 3, 0)), ((7, 10), (some 4, 0))]), ([(-18), (-2)], 160))]) (fuel := 4000) ⟨lqX11, fa_cons (⟨⟨2, _, pcv_X11_334, rfl⟩, hh_X11_factsAt_0⟩) (fa_nil)⟩ dtX11_twins (by decide +kernel)
abbrev cc_X11_writtenOf_0 : scC := (qX11_writtenOf, 1, [((-2147483648), 2147483647)], [.inr (.inr (.inl [0])), .inl (some 0, 0)], [], [(2, ((-9223372036854775808), 9223372036854775807), [], [], [])], [])
set_option maxRecDepth 20000 in
abbrev xx_X11_writtenOf_0 : scX := (Tm, invM, lnX11, [(334, 0, 11, cc_X11_factsAt_0)], cc_X11_writtenOf_0)
set_option maxRecDepth 20000 in
theorem hh_X11_writtenOf_0 : scH Tm invM cc_X11_writtenOf_0 := scCheck_ok (X := xx_X11_writtenOf_0) (nodes := [(5, ([((-2147483648), 2147483647), (0, 61), (0, 6), (0, 1), (0, 5)], [some (.inr (.inr (.inl [0]))), some (.inl (some 0, 0)), some (.inr (.inl ((-9223372036854775808), 9223372036854775807))), none, some (.inl (some 1, 0)), none, none], [], [((0, 31), (some 2, 0)), ((411, 1), (some 3, 0)), ((411, 0), (some 4, 0))]), ([0, (-16)], 990)), (18, ([((-2147483648), 2147483647), (0, 60), (0, 1), (0, 6), (0, 1), (0, 5), (0, 6)], [some (.inr (.inr (.inl [0]))), some (.inl (some 0, 0)), some (.inr (.inl ((-9223372036854775808), 9223372036854775807))), none, some (.inl (some 1, 0)), some (.inl (some 2, 0)), some (.inl (some 3, 0))], [], [((411, 1), (some 4, 0)), ((411, 0), (some 5, 0)), ((0, 31), (some 6, 0))]), ([0, (-16), 0, (-2)], 988))]) (fuel := 4000) ⟨lqX11, fa_cons (⟨⟨2, _, pcv_X11_334, rfl⟩, hh_X11_factsAt_0⟩) (fa_nil)⟩ dtX11_writtenOf (by decide +kernel)
abbrev cc_X11_written_0 : scC := (qX11_written, 2, [((-2147483648), 2147483647)], [.inr (.inr (.inl [0])), .inl (some 0, 0)], [], [(2, ((-9223372036854775808), 9223372036854775807), [], [], [])], [(0, 0, 1), (2, 0, 1)])
set_option maxRecDepth 20000 in
abbrev xx_X11_written_0 : scX := (Tm, invM, lnX11, [(177, 0, 11, cc_X11_bad_2), (177, 0, 11, cc_X11_bad_5), (331, 0, 11, cc_X11_isLife_0), (419, 0, 11, cc_X11_writtenOf_0)], cc_X11_written_0)
set_option maxRecDepth 20000 in
theorem hh_X11_written_0 : scH Tm invM cc_X11_written_0 := scCheck_ok (X := xx_X11_written_0) (nodes := []) (fuel := 4000) ⟨lqX11, fa_cons (⟨⟨3, _, pcv_X11_177, rfl⟩, hh_X11_bad_2⟩) (fa_cons (⟨⟨3, _, pcv_X11_177, rfl⟩, hh_X11_bad_5⟩) (fa_cons (⟨⟨1, _, pcv_X11_331, rfl⟩, hh_X11_isLife_0⟩) (fa_cons (⟨⟨1, _, pcv_X11_419, rfl⟩, hh_X11_writtenOf_0⟩) (fa_nil))))⟩ dtX11_written (by decide +kernel)
abbrev cc_X11_whose_0 : scC := (qX11_whose, 2, [], [.inr (.inr (.inl [0]))], [], [(1, ((-2147483648), 2147483647), [], [], [])], [(0, 0, 1)])
set_option maxRecDepth 20000 in
abbrev xx_X11_whose_0 : scX := (Tm, invM, lnX11, [(419, 0, 11, cc_X11_writtenOf_0)], cc_X11_whose_0)
set_option maxRecDepth 20000 in
theorem hh_X11_whose_0 : scH Tm invM cc_X11_whose_0 := scCheck_ok (X := xx_X11_whose_0) (nodes := [(9, ([((-2147483648), 2147483647), (0, 8), (0, 0), (0, 8)], [some (.inr (.inr (.inl [0]))), some (.inl (some 0, 0)), some (.inl (some 1, 0))], [], [((0, 0), (some 2, 0)), ((4, 0), (some 3, 0))]), ([0, (-2)], 16))]) (fuel := 4000) ⟨lqX11, fa_cons (⟨⟨1, _, pcv_X11_419, rfl⟩, hh_X11_writtenOf_0⟩) (fa_nil)⟩ dtX11_whose (by decide +kernel)
abbrev cc_X11_in_15 : scC := (qX11_in, 0, [((-2147483648), 2147483647), (0, 0), (60, 60)], [.inl (some 0, 0), .inl (some 1, 0), .inl (some 2, 0)], [], [(1, (0, 0), [], [], []), (1, (1, 1), [], [(0, (0, 60))], [])], [])
set_option maxRecDepth 20000 in
abbrev xx_X11_in_15 : scX := (Tm, invM, lnX11, [], cc_X11_in_15)
set_option maxRecDepth 20000 in
theorem hh_X11_in_15 : scH Tm invM cc_X11_in_15 := scCheck_ok (X := xx_X11_in_15) (nodes := []) (fuel := 4000) ⟨lqX11, fa_nil⟩ dtX11_in (by decide +kernel)
abbrev cc_X11_riskOf_1 : scC := (qX11_riskOf, 8, [], [.inr (.inr (.inl [0])), .inr (.inr (.inl [8]))], [], [(2, ((-9223372036854775808), 9223372036854775807), [], [], [])], [(5, 0, 160), (6, 0, 5)])
set_option maxRecDepth 20000 in
abbrev xx_X11_riskOf_1 : scX := (Tm, invM, lnX11, [(293, 0, 11, cc_X11_costOf_0)], cc_X11_riskOf_1)
set_option maxRecDepth 20000 in
theorem hh_X11_riskOf_1 : scH Tm invM cc_X11_riskOf_1 := scCheck_ok (X := xx_X11_riskOf_1) (nodes := [(5, ([(0, 8), (0, 64), (0, 8)], [some (.inr (.inr (.inl [0]))), some (.inr (.inr (.inl [8]))), some (.inr (.inl ((-9223372036854775808), 9223372036854775807))), none, some (.inl (some 0, 0))], [], [((35, 1), (some 1, 0)), ((4, 0), (some 2, 0))]), ([(-2)], 16))]) (fuel := 4000) ⟨lqX11, fa_cons (⟨⟨2, _, pcv_X11_293, rfl⟩, hh_X11_costOf_0⟩) (fa_nil)⟩ dtX11_riskOf (by decide +kernel)
abbrev cc_X11_riskIn_0 : scC := (qX11_riskIn, 9, [((-2147483648), 2147483647)], [.inr (.inr (.inl [0])), .inl (some 0, 0)], [], [(2, ((-9223372036854775808), 9223372036854775807), [], [], [])], [(5, 0, 160), (6, 0, 5), (8, 0, 14)])
set_option maxRecDepth 20000 in
abbrev xx_X11_riskIn_0 : scX := (Tm, invM, lnX11, [(306, 0, 11, cc_X11_weekEnds_0), (323, 1, 0, cc_X11_copies_0), (349, 0, 11, cc_X11_riskOf_1)], cc_X11_riskIn_0)
set_option maxRecDepth 20000 in
theorem hh_X11_riskIn_0 : scH Tm invM cc_X11_riskIn_0 := scCheck_ok (X := xx_X11_riskIn_0) (nodes := [(13, ([((-2147483648), 2147483647), (0, 2147483647)], [some (.inr (.inr (.inl [0]))), some (.inl (some 0, 0)), some (.inl (some 1, 0))], [], []), ([0, (-2)], 4294967294))]) (fuel := 4000) ⟨lqX11, fa_cons (⟨⟨1, _, pcv_X11_306, rfl⟩, hh_X11_weekEnds_0⟩) (fa_cons (⟨pcs_X11_323, hh_X11_copies_0⟩) (fa_cons (⟨⟨1, _, pcv_X11_349, rfl⟩, hh_X11_riskOf_1⟩) (fa_nil)))⟩ dtX11_riskIn (by decide +kernel)
abbrev cc_X11_ahead_0 : scC := (qX11_ahead, 10, [((-2147483648), 2147483647), ((-2147483648), 2147483647)], [.inr (.inr (.inl [0])), .inl (some 0, 0), .inl (some 1, 0)], [], [(2, ((-9223372036854775808), 9223372036854775807), [], [], [])], [(0, 0, 1), (2, 1, 1), (5, 0, 160), (6, 0, 5), (8, 0, 14)])
set_option maxRecDepth 20000 in
abbrev xx_X11_ahead_0 : scX := (Tm, invM, lnX11, [(135, 1, 0, cc_X11_in_15), (177, 0, 11, cc_X11_bad_0), (177, 0, 11, cc_X11_bad_1), (340, 0, 11, cc_X11_noPart_0), (345, 1, 0, cc_hand_partOf), (423, 0, 11, cc_X11_riskIn_0)], cc_X11_ahead_0)
set_option maxRecDepth 20000 in
theorem hh_X11_ahead_0 : scH Tm invM cc_X11_ahead_0 := scCheck_ok (X := xx_X11_ahead_0) (nodes := []) (fuel := 4000) ⟨lqX11, fa_cons (⟨pcs_X11_135, hh_X11_in_15⟩) (fa_cons (⟨⟨3, _, pcv_X11_177, rfl⟩, hh_X11_bad_0⟩) (fa_cons (⟨⟨3, _, pcv_X11_177, rfl⟩, hh_X11_bad_1⟩) (fa_cons (⟨⟨2, _, pcv_X11_340, rfl⟩, hh_X11_noPart_0⟩) (fa_cons (⟨pcs_X11_345, hh_hand_partOf⟩) (fa_cons (⟨⟨1, _, pcv_X11_423, rfl⟩, hh_X11_riskIn_0⟩) (fa_nil))))))⟩ dtX11_ahead (by decide +kernel)
abbrev cc_X11_worst_0 : scC := (qX11_worst, 10, [], [.inr (.inr (.inl [0]))], [], [(1, (0, 2147483647), [], [], [])], [(0, 0, 1), (5, 0, 160), (6, 0, 5), (8, 0, 14)])
set_option maxRecDepth 20000 in
abbrev xx_X11_worst_0 : scX := (Tm, invM, lnX11, [(423, 0, 11, cc_X11_riskIn_0)], cc_X11_worst_0)
set_option maxRecDepth 20000 in
theorem hh_X11_worst_0 : scH Tm invM cc_X11_worst_0 := scCheck_ok (X := xx_X11_worst_0) (nodes := [(9, ([(0, 2147483647), (1, 61), (0, 0)], [some (.inr (.inr (.inl [0]))), some (.inl (some 0, 0)), some (.inl (some 1, 0))], [], [((0, 0), (some 2, 0))]), ([0, (-2)], 122))]) (fuel := 4000) ⟨lqX11, fa_cons (⟨⟨1, _, pcv_X11_423, rfl⟩, hh_X11_riskIn_0⟩) (fa_nil)⟩ dtX11_worst (by decide +kernel)
abbrev cc_X11_lives_0 : scC := (qX11_lives, 2, [((-2147483648), 2147483647), ((-2147483648), 2147483647), ((-2147483648), 2147483647)], [.inr (.inr (.inl [0])), .inl (some 0, 0), .inl (some 1, 0), .inl (some 2, 0)], [], [(2, ((-9223372036854775808), 9223372036854775807), [], [], [])], [(0, 0, 1), (2, 0, 2)])
set_option maxRecDepth 20000 in
abbrev xx_X11_lives_0 : scX := (Tm, invM, lnX11, [(135, 1, 0, cc_X11_in_0), (177, 0, 11, cc_X11_bad_2), (177, 0, 11, cc_X11_bad_5), (177, 0, 11, cc_X11_bad_3), (177, 0, 11, cc_X11_bad_4), (256, 1, 0, cc_X11_has_0), (331, 0, 11, cc_X11_isLife_0), (340, 0, 11, cc_X11_noPart_1), (345, 1, 0, cc_hand_partOf), (365, 1, 0, cc_hand_power), (365, 1, 0, cc_X11_power_1)], cc_X11_lives_0)
set_option maxRecDepth 20000 in
theorem hh_X11_lives_0 : scH Tm invM cc_X11_lives_0 := scCheck_ok (X := xx_X11_lives_0) (nodes := []) (fuel := 4000) ⟨lqX11, fa_cons (⟨pcs_X11_135, hh_X11_in_0⟩) (fa_cons (⟨⟨3, _, pcv_X11_177, rfl⟩, hh_X11_bad_2⟩) (fa_cons (⟨⟨3, _, pcv_X11_177, rfl⟩, hh_X11_bad_5⟩) (fa_cons (⟨⟨3, _, pcv_X11_177, rfl⟩, hh_X11_bad_3⟩) (fa_cons (⟨⟨3, _, pcv_X11_177, rfl⟩, hh_X11_bad_4⟩) (fa_cons (⟨pcs_X11_256, hh_X11_has_0⟩) (fa_cons (⟨⟨1, _, pcv_X11_331, rfl⟩, hh_X11_isLife_0⟩) (fa_cons (⟨⟨2, _, pcv_X11_340, rfl⟩, hh_X11_noPart_1⟩) (fa_cons (⟨pcs_X11_345, hh_hand_partOf⟩) (fa_cons (⟨pcs_X11_365, hh_hand_power⟩) (fa_cons (⟨pcs_X11_365, hh_X11_power_1⟩) (fa_nil)))))))))))⟩ dtX11_lives (by decide +kernel)
abbrev cc_X11_oldest_0 : scC := (qX11_oldest, 1, [], [.inr (.inr (.inl [0]))], [], [(1, ((-1), 7), [], [], [])], [(0, 0, 1)])
set_option maxRecDepth 20000 in
abbrev xx_X11_oldest_0 : scX := (Tm, invM, lnX11, [(283, 1, 0, cc_X11_hasPiece_1)], cc_X11_oldest_0)
set_option maxRecDepth 20000 in
theorem hh_X11_oldest_0 : scH Tm invM cc_X11_oldest_0 := scCheck_ok (X := xx_X11_oldest_0) (nodes := [(9, ([((-1), 7), (0, 8), (0, 0), (0, 8), ((-1000), 200)], [some (.inr (.inr (.inl [0]))), some (.inl (some 0, 0)), some (.inl (some 1, 0))], [], [((0, 0), (some 2, 0)), ((4, 0), (some 3, 0)), ((7, 1), (some 4, 0))]), ([0, (-2)], 16))]) (fuel := 4000) ⟨lqX11, fa_cons (⟨pcs_X11_283, hh_X11_hasPiece_1⟩) (fa_nil)⟩ dtX11_oldest (by decide +kernel)
abbrev cc_X11_yearsOf_3 : scC := (qX11_yearsOf, 0, [(0, 7), (0, 599)], [.inr (.inr (.inl [0])), .inl (some 0, 0), .inl (some 1, 0)], [], [(1, (0, 709), [], [], [])], [])
set_option maxRecDepth 20000 in
abbrev xx_X11_yearsOf_3 : scX := (Tm, invM, lnX11, [], cc_X11_yearsOf_3)
set_option maxRecDepth 20000 in
theorem hh_X11_yearsOf_3 : scH Tm invM cc_X11_yearsOf_3 := scCheck_ok (X := xx_X11_yearsOf_3) (nodes := []) (fuel := 4000) ⟨lqX11, fa_nil⟩ dtX11_yearsOf (by decide +kernel)
end
-- P 12pc
section
abbrev cc_X11_wrongIn_8 : scC := (qX11_wrongIn, 5, [(0, 7), ((-1000), 200), (0, 599)], [.inr (.inr (.inl [0])), .inr (.inr (.inl [7])), .inl (some 0, 0), .inl (some 1, 0), .inl (some 2, 0)], [], [(1, (0, 64), [], [], [])], [(5, 0, 160), (6, 0, 5)])
set_option maxRecDepth 20000 in
abbrev xx_X11_wrongIn_8 : scX := (Tm, invM, lnX11, [(263, 0, 11, cc_X11_yearsOf_3), (266, 0, 11, cc_X11_isByDead_1), (270, 0, 11, cc_X11_changesOf_0), (273, 0, 11, cc_X11_wrongBy_0)], cc_X11_wrongIn_8)
set_option maxRecDepth 20000 in
theorem hh_X11_wrongIn_8 : scH Tm invM cc_X11_wrongIn_8 := scCheck_ok (X := xx_X11_wrongIn_8) (nodes := []) (fuel := 4000) ⟨lqX11, fa_cons (⟨⟨2, _, pcv_X11_263, rfl⟩, hh_X11_yearsOf_3⟩) (fa_cons (⟨⟨2, _, pcv_X11_266, rfl⟩, hh_X11_isByDead_1⟩) (fa_cons (⟨⟨3, _, pcv_X11_270, rfl⟩, hh_X11_changesOf_0⟩) (fa_cons (⟨⟨5, _, pcv_X11_273, rfl⟩, hh_X11_wrongBy_0⟩) (fa_nil))))⟩ dtX11_wrongIn (by decide +kernel)
abbrev cc_X11_due_0 : scC := (qX11_due, 6, [((-2147483648), 2147483647), ((-2147483648), 2147483647)], [.inr (.inr (.inl [0])), .inl (some 0, 0), .inl (some 1, 0)], [], [(1, ((-1), 60), [], [], [])], [(0, 0, 1), (2, 0, 2), (5, 0, 160), (6, 0, 5)])
set_option maxRecDepth 20000 in
abbrev xx_X11_due_0 : scX := (Tm, invM, lnX11, [(135, 1, 0, cc_X11_in_7), (177, 0, 11, cc_X11_bad_2), (177, 0, 11, cc_X11_bad_5), (177, 0, 11, cc_X11_bad_3), (177, 0, 11, cc_X11_bad_4), (276, 0, 11, cc_X11_wrongIn_1), (276, 0, 11, cc_X11_wrongIn_6), (276, 0, 11, cc_X11_wrongIn_8), (283, 1, 0, cc_X11_hasPiece_1), (331, 0, 11, cc_X11_isLife_0)], cc_X11_due_0)
set_option maxRecDepth 20000 in
theorem hh_X11_due_0 : scH Tm invM cc_X11_due_0 := scCheck_ok (X := xx_X11_due_0) (nodes := [(55, ([(0, 7), (0, 65), (0, 61), (0, 0), (0, 200)], [some (.inr (.inr (.inl [0]))), some (.inl (some 0, 0)), some (.inl (some 1, 0)), some (.inl (some 2, 0))], [], [((0, 0), (some 3, 0)), ((7, 10), (some 4, 0))]), ([0, 0, (-2)], 122))]) (fuel := 4000) ⟨lqX11, fa_cons (⟨pcs_X11_135, hh_X11_in_7⟩) (fa_cons (⟨⟨3, _, pcv_X11_177, rfl⟩, hh_X11_bad_2⟩) (fa_cons (⟨⟨3, _, pcv_X11_177, rfl⟩, hh_X11_bad_5⟩) (fa_cons (⟨⟨3, _, pcv_X11_177, rfl⟩, hh_X11_bad_3⟩) (fa_cons (⟨⟨3, _, pcv_X11_177, rfl⟩, hh_X11_bad_4⟩) (fa_cons (⟨⟨4, _, pcv_X11_276, rfl⟩, hh_X11_wrongIn_1⟩) (fa_cons (⟨⟨4, _, pcv_X11_276, rfl⟩, hh_X11_wrongIn_6⟩) (fa_cons (⟨⟨4, _, pcv_X11_276, rfl⟩, hh_X11_wrongIn_8⟩) (fa_cons (⟨pcs_X11_283, hh_X11_hasPiece_1⟩) (fa_cons (⟨⟨1, _, pcv_X11_331, rfl⟩, hh_X11_isLife_0⟩) (fa_nil))))))))))⟩ dtX11_due (by decide +kernel)
abbrev cc_X11_news_0 : scC := (qX11_news, 2, [((-2147483648), 2147483647)], [.inr (.inr (.inl [0])), .inl (some 0, 0)], [], [(1, ((-1), 60), [], [], [])], [(0, 0, 1), (2, 0, 1)])
set_option maxRecDepth 20000 in
abbrev xx_X11_news_0 : scX := (Tm, invM, lnX11, [(177, 0, 11, cc_X11_bad_2), (177, 0, 11, cc_X11_bad_5), (331, 0, 11, cc_X11_isLife_0)], cc_X11_news_0)
set_option maxRecDepth 20000 in
theorem hh_X11_news_0 : scH Tm invM cc_X11_news_0 := scCheck_ok (X := xx_X11_news_0) (nodes := [(33, ([(0, 7), ((-1), 60), (0, 24), (0, 0), (0, 200), (0, 60), (0, 7), (0, 24)], [some (.inr (.inr (.inl [0]))), some (.inl (some 0, 0)), some (.inl (some 1, 0)), some (.inl (some 2, 0))], [], [((0, 0), (some 3, 0)), ((7, 10), (some 4, 0)), ((67, 2), (some 5, 0)), ((67, 0), (some 6, 0)), ((4, 1), (some 7, 0))]), ([0, 0, (-2)], 48))]) (fuel := 4000) ⟨lqX11, fa_cons (⟨⟨3, _, pcv_X11_177, rfl⟩, hh_X11_bad_2⟩) (fa_cons (⟨⟨3, _, pcv_X11_177, rfl⟩, hh_X11_bad_5⟩) (fa_cons (⟨⟨1, _, pcv_X11_331, rfl⟩, hh_X11_isLife_0⟩) (fa_nil)))⟩ dtX11_news (by decide +kernel)
abbrev cc_X11_expects_0 : scC := (qX11_expects, 7, [((-2147483648), 2147483647), ((-2147483648), 2147483647), ((-2147483648), 2147483647)], [.inr (.inr (.inl [0])), .inl (some 0, 0), .inl (some 1, 0), .inl (some 2, 0)], [], [(2, ((-9223372036854775808), 9223372036854775807), [], [], [])], [(0, 0, 1), (2, 0, 2), (5, 0, 160), (6, 0, 5)])
set_option maxRecDepth 20000 in
abbrev xx_X11_expects_0 : scX := (Tm, invM, lnX11, [(135, 1, 0, cc_X11_in_2), (177, 0, 11, cc_X11_bad_2), (177, 0, 11, cc_X11_bad_5), (177, 0, 11, cc_X11_bad_3), (177, 0, 11, cc_X11_bad_4), (256, 1, 0, cc_X11_has_0), (280, 0, 11, cc_X11_costIn_1), (280, 0, 11, cc_X11_costIn_6), (331, 0, 11, cc_X11_isLife_0), (340, 0, 11, cc_X11_noPart_1), (345, 1, 0, cc_hand_partOf), (365, 1, 0, cc_hand_power), (365, 1, 0, cc_X11_power_1)], cc_X11_expects_0)
set_option maxRecDepth 20000 in
theorem hh_X11_expects_0 : scH Tm invM cc_X11_expects_0 := scCheck_ok (X := xx_X11_expects_0) (nodes := [(78, ([(0, 7), (0, 7), (0, 1), (0, 64), (0, 7), (0, 0), (0, 200), ((-2147483648), 2147483647)], [some (.inr (.inr (.inl [0]))), some (.inl (some 0, 0)), some (.inl (some 1, 0)), some (.inl (some 2, 0)), some (.inr (.inl ((-9223372036854775808), 9223372036854775807))), none, some (.inl (some 3, 0)), some (.inl (some 4, 0))], [], [((0, 0), (some 5, 0)), ((7, 10), (some 6, 0)), ((7, 0), (some 7, 0))]), ([0, 0, 0, 0, (-2)], 14))]) (fuel := 4000) ⟨lqX11, fa_cons (⟨pcs_X11_135, hh_X11_in_2⟩) (fa_cons (⟨⟨3, _, pcv_X11_177, rfl⟩, hh_X11_bad_2⟩) (fa_cons (⟨⟨3, _, pcv_X11_177, rfl⟩, hh_X11_bad_5⟩) (fa_cons (⟨⟨3, _, pcv_X11_177, rfl⟩, hh_X11_bad_3⟩) (fa_cons (⟨⟨3, _, pcv_X11_177, rfl⟩, hh_X11_bad_4⟩) (fa_cons (⟨pcs_X11_256, hh_X11_has_0⟩) (fa_cons (⟨⟨4, _, pcv_X11_280, rfl⟩, hh_X11_costIn_1⟩) (fa_cons (⟨⟨4, _, pcv_X11_280, rfl⟩, hh_X11_costIn_6⟩) (fa_cons (⟨⟨1, _, pcv_X11_331, rfl⟩, hh_X11_isLife_0⟩) (fa_cons (⟨⟨2, _, pcv_X11_340, rfl⟩, hh_X11_noPart_1⟩) (fa_cons (⟨pcs_X11_345, hh_hand_partOf⟩) (fa_cons (⟨pcs_X11_365, hh_hand_power⟩) (fa_cons (⟨pcs_X11_365, hh_X11_power_1⟩) (fa_nil)))))))))))))⟩ dtX11_expects (by decide +kernel)
abbrev cc_X11_in_16 : scC := (qX11_in, 0, [((-2147483648), 2147483647), (1, 1), (60, 60)], [.inl (some 0, 0), .inl (some 1, 0), .inl (some 2, 0)], [], [(1, (0, 0), [], [], []), (1, (1, 1), [], [(0, (1, 60))], [])], [])
set_option maxRecDepth 20000 in
abbrev xx_X11_in_16 : scX := (Tm, invM, lnX11, [], cc_X11_in_16)
set_option maxRecDepth 20000 in
theorem hh_X11_in_16 : scH Tm invM cc_X11_in_16 := scCheck_ok (X := xx_X11_in_16) (nodes := []) (fuel := 4000) ⟨lqX11, fa_nil⟩ dtX11_in (by decide +kernel)
abbrev cc_X11_in_17 : scC := (qX11_in, 0, [((-2147483648), 2147483647), (0, 0), (4, 4)], [.inl (some 0, 0), .inl (some 1, 0), .inl (some 2, 0)], [], [(1, (0, 0), [], [], []), (1, (1, 1), [], [(0, (0, 4))], [])], [])
set_option maxRecDepth 20000 in
abbrev xx_X11_in_17 : scX := (Tm, invM, lnX11, [], cc_X11_in_17)
set_option maxRecDepth 20000 in
theorem hh_X11_in_17 : scH Tm invM cc_X11_in_17 := scCheck_ok (X := xx_X11_in_17) (nodes := []) (fuel := 4000) ⟨lqX11, fa_nil⟩ dtX11_in (by decide +kernel)
abbrev cc_X11_aliveIn_1 : scC := (qX11_aliveIn, 1, [], [.inr (.inr (.inl [0])), .inr (.inr (.inl [8]))], [], [(1, ((-2147483648), 2147483647), [], [], [])], [])
set_option maxRecDepth 20000 in
abbrev xx_X11_aliveIn_1 : scX := (Tm, invM, lnX11, [(256, 1, 0, cc_X11_has_0)], cc_X11_aliveIn_1)
set_option maxRecDepth 20000 in
theorem hh_X11_aliveIn_1 : scH Tm invM cc_X11_aliveIn_1 := scCheck_ok (X := xx_X11_aliveIn_1) (nodes := [(4, ([((-2147483648), 2147483647), (0, 8), ((-2147483648), 2147483647), (0, 8)], [some (.inr (.inr (.inl [0]))), some (.inr (.inr (.inl [8]))), some (.inl (some 0, 0)), some (.inl (some 1, 0))], [], [((8, 0), (some 2, 0)), ((4, 0), (some 3, 0))]), ([0, (-2)], 16))]) (fuel := 4000) ⟨lqX11, fa_cons (⟨pcs_X11_256, hh_X11_has_0⟩) (fa_nil)⟩ dtX11_aliveIn (by decide +kernel)
abbrev cc_X11_years_0 : scC := (qX11_years, 13, [((-2147483648), 2147483647), ((-2147483648), 2147483647), ((-2147483648), 2147483647)], [.inr (.inr (.inl [0])), .inl (some 0, 0), .inl (some 1, 0), .inl (some 2, 0)], [], [(1, ((-2147483648), 2147483647), [], [], [])], [(0, 0, 1), (0, 47, 2), (2, 1, 1), (5, 0, 160), (6, 0, 5), (8, 0, 14)])
set_option maxRecDepth 20000 in
abbrev xx_X11_years_0 : scX := (Tm, invM, lnX11, [(135, 1, 0, cc_X11_in_16), (135, 1, 0, cc_X11_in_17), (177, 0, 11, cc_X11_bad_0), (177, 0, 11, cc_X11_bad_1), (327, 0, 11, cc_X11_aliveIn_1), (433, 0, 11, cc_hand_yearsBy)], cc_X11_years_0)
set_option maxRecDepth 20000 in
theorem hh_X11_years_0 : scH Tm invM cc_X11_years_0 := scCheck_ok (X := xx_X11_years_0) (nodes := []) (fuel := 4000) ⟨lqX11, fa_cons (⟨pcs_X11_135, hh_X11_in_16⟩) (fa_cons (⟨pcs_X11_135, hh_X11_in_17⟩) (fa_cons (⟨⟨3, _, pcv_X11_177, rfl⟩, hh_X11_bad_0⟩) (fa_cons (⟨⟨3, _, pcv_X11_177, rfl⟩, hh_X11_bad_1⟩) (fa_cons (⟨⟨1, _, pcv_X11_327, rfl⟩, hh_X11_aliveIn_1⟩) (fa_cons (⟨⟨2, _, pcv_X11_433, rfl⟩, hh_hand_yearsBy⟩) (fa_nil))))))⟩ dtX11_years (by decide +kernel)
abbrev cc_X11_in_18 : scC := (qX11_in, 0, [((-2147483648), 2147483647), (1, 1), (20, 20)], [.inl (some 0, 0), .inl (some 1, 0), .inl (some 2, 0)], [], [(1, (0, 0), [], [], []), (1, (1, 1), [], [(0, (1, 20))], [])], [])
set_option maxRecDepth 20000 in
abbrev xx_X11_in_18 : scX := (Tm, invM, lnX11, [], cc_X11_in_18)
set_option maxRecDepth 20000 in
theorem hh_X11_in_18 : scH Tm invM cc_X11_in_18 := scCheck_ok (X := xx_X11_in_18) (nodes := []) (fuel := 4000) ⟨lqX11, fa_nil⟩ dtX11_in (by decide +kernel)
abbrev cc_X11_in_19 : scC := (qX11_in, 0, [((-2147483648), 2147483647), (0, 0), (3, 3)], [.inl (some 0, 0), .inl (some 1, 0), .inl (some 2, 0)], [], [(1, (0, 0), [], [], []), (1, (1, 1), [], [(0, (0, 3))], [])], [])
set_option maxRecDepth 20000 in
abbrev xx_X11_in_19 : scX := (Tm, invM, lnX11, [], cc_X11_in_19)
set_option maxRecDepth 20000 in
theorem hh_X11_in_19 : scH Tm invM cc_X11_in_19 := scCheck_ok (X := xx_X11_in_19) (nodes := []) (fuel := 4000) ⟨lqX11, fa_nil⟩ dtX11_in (by decide +kernel)
abbrev cc_X11_span_0 : scC := (qX11_span, 13, [((-2147483648), 2147483647), ((-2147483648), 2147483647), ((-2147483648), 2147483647), ((-2147483648), 2147483647), ((-2147483648), 2147483647)], [.inr (.inr (.inl [0])), .inl (some 0, 0), .inl (some 1, 0), .inl (some 2, 0), .inl (some 3, 0), .inl (some 4, 0)], [], [(1, ((-2147483648), 2147483647), [], [], [])], [(0, 0, 1), (0, 47, 2), (2, 1, 1), (5, 0, 160), (6, 0, 5), (8, 0, 14)])
set_option maxRecDepth 20000 in
abbrev xx_X11_span_0 : scX := (Tm, invM, lnX11, [(135, 1, 0, cc_X11_in_18), (135, 1, 0, cc_X11_in_16), (135, 1, 0, cc_X11_in_19), (177, 0, 11, cc_X11_bad_0), (177, 0, 11, cc_X11_bad_1), (256, 1, 0, cc_X11_has_0), (331, 0, 11, cc_X11_isLife_0), (433, 0, 11, cc_hand_yearsBy)], cc_X11_span_0)
set_option maxRecDepth 20000 in
theorem hh_X11_span_0 : scH Tm invM cc_X11_span_0 := scCheck_ok (X := xx_X11_span_0) (nodes := [(75, ([((-2147483648), 2147483647), (1, 20), (1, 60), (0, 3), (0, 7), ((-2147483648), 2147483647), (0, 2147483647), ((-2147483648), 2147483647), ((-2147483648), 2147483647), (0, 20), (0, 0), ((-2147483648), 2147483647), ((-2147483648), 2147483647), ((-2147483648), 2147483647)], [some (.inr (.inr (.inl [0]))), some (.inl (some 0, 0)), some (.inl (some 1, 0)), some (.inl (some 2, 0)), some (.inl (some 3, 0)), some (.inl (some 4, 0)), some (.inl (some 5, 0)), some (.inl (some 6, 0)), some (.inl (some 7, 0)), some (.inl (some 8, 0)), some (.inl (some 9, 0)), none], [], [((0, 0), (some 10, 0)), ((8, 0), (some 11, 0)), ((7, 11), (some 12, 0)), ((8, 11), (some 13, 0))]), ([0, 0, 0, 0, 0, 0, 0, 0, 0, (-2)], 40))]) (fuel := 4000) ⟨lqX11, fa_cons (⟨pcs_X11_135, hh_X11_in_18⟩) (fa_cons (⟨pcs_X11_135, hh_X11_in_16⟩) (fa_cons (⟨pcs_X11_135, hh_X11_in_19⟩) (fa_cons (⟨⟨3, _, pcv_X11_177, rfl⟩, hh_X11_bad_0⟩) (fa_cons (⟨⟨3, _, pcv_X11_177, rfl⟩, hh_X11_bad_1⟩) (fa_cons (⟨pcs_X11_256, hh_X11_has_0⟩) (fa_cons (⟨⟨1, _, pcv_X11_331, rfl⟩, hh_X11_isLife_0⟩) (fa_cons (⟨⟨2, _, pcv_X11_433, rfl⟩, hh_hand_yearsBy⟩) (fa_nil))))))))⟩ dtX11_span (by decide +kernel)
abbrev cc_X11_image_0 : scC := (qX11_image, 2, [], [.inr (.inr (.inl [0]))], [], [(1, ((-1), 3), [], [], [])], [(0, 0, 1), (0, 32, 1), (0, 34, 2), (7, 0, 14), (503, 0, 14), (504, 0, 14), (505, 0, 14), (506, 0, 14), (507, 0, 14), (508, 0, 14), (509, 0, 14), (510, 0, 14), (511, 0, 14), (512, 0, 14), (513, 0, 14), (514, 0, 14), (515, 0, 14), (516, 0, 14), (517, 0, 14), (518, 0, 14), (519, 0, 239), (520, 0, 239), (521, 0, 239)])
set_option maxRecDepth 20000 in
abbrev xx_X11_image_0 : scX := (Tm, invM, lnX11, [(443, 0, 11, cc_hand_putsAll0)], cc_X11_image_0)
set_option maxRecDepth 20000 in
theorem hh_X11_image_0 : scH Tm invM cc_X11_image_0 := scCheck_ok (X := xx_X11_image_0) (nodes := []) (fuel := 4000) ⟨lqX11, fa_cons (⟨⟨2, _, pcv_X11_443, rfl⟩, hh_hand_putsAll0⟩) (fa_nil)⟩ dtX11_image (by decide +kernel)
abbrev cc_X11_restore_0 : scC := (qX11_restore, 2, [], [.inr (.inr (.inl [0]))], [], [(1, ((-1), 2), [], [], [])], [(0, 0, 1), (0, 32, 4), (7, 0, 14), (503, 0, 14), (504, 0, 14), (505, 0, 14), (506, 0, 14), (507, 0, 14), (508, 0, 14), (509, 0, 14), (510, 0, 14), (511, 0, 14), (512, 0, 14), (513, 0, 14), (514, 0, 14), (515, 0, 14), (516, 0, 14), (517, 0, 14), (518, 0, 14)])
set_option maxRecDepth 20000 in
abbrev xx_X11_restore_0 : scX := (Tm, invM, lnX11, [(443, 0, 11, cc_hand_putsAll1)], cc_X11_restore_0)
set_option maxRecDepth 20000 in
theorem hh_X11_restore_0 : scH Tm invM cc_X11_restore_0 := scCheck_ok (X := xx_X11_restore_0) (nodes := []) (fuel := 4000) ⟨lqX11, fa_cons (⟨⟨2, _, pcv_X11_443, rfl⟩, hh_hand_putsAll1⟩) (fa_nil)⟩ dtX11_restore (by decide +kernel)
abbrev cc_X11_status_0 : scC := (qX11_status, 1, [((-2147483648), 2147483647)], [.inr (.inr (.inl [0])), .inl (some 0, 0)], [], [(1, ((-2147483648), 2147483647), [], [], [])], [(0, 0, 1)])
set_option maxRecDepth 20000 in
abbrev xx_X11_status_0 : scX := (Tm, invM, lnX11, [(135, 1, 0, cc_X11_in_5)], cc_X11_status_0)
set_option maxRecDepth 20000 in
theorem hh_X11_status_0 : scH Tm invM cc_X11_status_0 := scCheck_ok (X := xx_X11_status_0) (nodes := []) (fuel := 4000) ⟨lqX11, fa_cons (⟨pcs_X11_135, hh_X11_in_5⟩) (fa_nil)⟩ dtX11_status (by decide +kernel)
abbrev cc_X11_count_0 : scC := (qX11_count, 0, [((-2147483648), 2147483647)], [.inr (.inr (.inl [0])), .inl (some 0, 0)], [], [(1, ((-1), 600), [], [], [])], [(0, 0, 1)])
set_option maxRecDepth 20000 in
abbrev xx_X11_count_0 : scX := (Tm, invM, lnX11, [], cc_X11_count_0)
set_option maxRecDepth 20000 in
theorem hh_X11_count_0 : scH Tm invM cc_X11_count_0 := scCheck_ok (X := xx_X11_count_0) (nodes := []) (fuel := 4000) ⟨lqX11, fa_nil⟩ dtX11_count (by decide +kernel)
end
-- P 12q
section
-- THE REFERENCE: tops by hand
def tI (r : fmR) : Prop := ∃ n : Int32, r = .inl (some (.int n))
def tJ (r : fmR) : Prop := ∃ n : Int64, r = .inl (some (.long n))
theorem scInv.p00 {M : fmM} {x : Int32} (hI : scInv Tm invM M) (hx : x = 0 ∨ x = 1 ∨ x = 2) : scInv Tm invM (fmI M 0 0 x) := hI.put (k := 0) (j := 0) (x := x) (by rcases hx with rfl | rfl | rfl <;> decide) rfl
theorem scInv.p2 {M : fmM} {x : Int32} {j : Nat} (hI : scInv Tm invM M) : scInv Tm invM (fmI M 2 j x) := scInvM_top 2 rfl (fun j => rfl) hI (fun q j hq => by rw [fmI_k _ _ hq])
theorem told8 {M : fmM} (hI : scInv Tm invM M) : ∃ l : Nat, (M.1 4 0).toInt = l ∧ l ≤ 8 := ⟨(M.1 4 0).toInt.toNat, by
  have h1 : 0 ≤ (M.1 4 0).toInt := (hI.1 4 0 (by decide)).1
  omega, by
  have h2 : (M.1 4 0).toInt ≤ 8 := (hI.1 4 0 (by decide)).2
  omega⟩
def pop8 (w : Nat) : Nat := ((List.range 8).map (fun k => if w.testBit k then 1 else 0)).sum
theorem pop8_le : ∀ w, w < 256 → pop8 w ≤ 8 := by decide +kernel
theorem pop8_add : ∀ w, w < 256 → ∀ k, k < 8 → w.testBit k = false → pop8 (w ||| 1 <<< k) = pop8 w + 1 ∧ w ||| 1 <<< k < 256 := by decide +kernel
theorem or8 : ∀ w, w < 256 → ∀ k, k < 8 → (nI w ||| (1 : Int32) <<< (nI k &&& 31)) = nI (w ||| 1 <<< k) := by decide +kernel
theorem has8 : ∀ w, w < 256 → ∀ k, k < 8 → ((nI w >>> (nI k &&& 31) &&& 1) = (1 : Int32) ↔ w.testBit k = true) := by decide +kernel
theorem one8 : ∀ k, k < 8 → ((1 : Int32) <<< (nI k &&& 31)) = nI (1 <<< k) ∧ 1 <<< k < 256 := by decide +kernel
theorem by_7 {M : fmM} {k : Nat} (hI : scInv Tm invM M) (hk : k < 8) : -1 ≤ (M.1 (35 + k) 5).toInt ∧ (M.1 (35 + k) 5).toInt ≤ 7 := by
  have h := hI.1 (35 + k) 5 (by rw [(rw_life.2.2.2 k hk).2.2.2.2]; decide)
  rcases (show k = 0 ∨ k = 1 ∨ k = 2 ∨ k = 3 ∨ k = 4 ∨ k = 5 ∨ k = 6 ∨ k = 7 by omega) with rfl | rfl | rfl | rfl | rfl | rfl | rfl | rfl <;> exact h
theorem by_k {M : fmM} {k : Nat} {x : Int32} (hx : x = M.1 (35 + k) 5) (hI : scInv Tm invM M) (hk : k < 8) (h : ¬ x = -1) : ∃ v : Nat, v < 8 ∧ x = nI v ∧ x.toInt = v := by
  have h7 := by_7 hI hk
  rw [← hx] at h7
  have h1 : ¬ x.toInt = -1 := fun e => h (i32_ext (e.trans (by decide)))
  exact ⟨x.toInt.toNat, by omega, nI_is (by omega) (by omega), by omega⟩
set_option maxRecDepth 20000 in
theorem c_isLife {M : fmM} {Q : fmR → fmM → Prop} {i : Int32} {l : Nat} (h4 : (M.1 4 0).toInt = l) (hl : l ≤ 8) (ht : ∀ k : Nat, i.toInt = k → k < l → Q (.inl (some (.int 1))) M) (hf : ¬ (0 ≤ i.toInt ∧ i.toInt < l) → Q (.inl (some (.int 0))) M) : pvGood Tm 1 qX11_isLife [.ref 0, .int i] M Q := by
  refine pvGood_of (Nat.le_of_ble_eq_true rfl) ?_
  show pvEv Tm 1 qX11_isLife 0 [some (.ref 0), some (.int i)] [] M Q
  refine pv_iloadn (pc := 0) (n := 1) 1 rfl rfl (fm_dec dtX11_isLife 0 rfl) ?_
  refine pv_iconst (pc := 1) (v := 0) (by decide) (fm_dec dtX11_isLife 1 rfl) ?_
  refine pv_aloadn (pc := 2) (n := 0) 0 rfl rfl (fm_dec dtX11_isLife 2 rfl) ?_
  refine pv_getR (k := 0) (j := 12) (ci := 11) (pc := 3) 4 rfl (by decide) pfl_X11_23 (by decide) rfl (by decide) (fm_dec dtX11_isLife 3 rfl) ?_
  refine pv_iconst (pc := 6) (v := 0) (by decide) (fm_dec dtX11_isLife 4 rfl) ?_
  refine pv_iald (k := 4) (n := 6) (pc := 7) (by decide) rfl rfl (fm_inl (by decide)) (fm_dec dtX11_isLife 5 rfl) ?_
  refine pv_iconst (pc := 8) (v := 1) (by decide) (fm_dec dtX11_isLife 6 rfl) ?_
  refine pv_isub (pc := 9) (fm_dec dtX11_isLife 7 rfl) ?_
  refine pv_iS3 (d' := 0) (pc := 10) pcs_X11_135 (Nat.le_of_ble_eq_true rfl) (by decide) (fm_dec dtX11_isLife 8 rfl) ?_
  refine c_in (fun h1 h2 => ?_) (fun h1 => ?_)
  · refine pv_then1 ?_
    exact pv_zreturn (pc := 13) rfl (by first | exact Or.inr rfl | exact Or.inl rfl) (fm_dec dtX11_isLife 9 rfl) (ht i.toInt.toNat (by have h9 : (0 : Int32).toInt = 0 := (by decide); omega) (by have h8 : i.toInt ≤ (M.1 4 0 - 1).toInt := h2; rw [lh_hi h4 hl] at h8; have h9 : (0 : Int32).toInt = 0 := (by decide); omega))
  · refine pv_then1 ?_
    exact pv_zreturn (pc := 13) rfl (by first | exact Or.inr rfl | exact Or.inl rfl) (fm_dec dtX11_isLife 9 rfl) (hf (fun h9 => h1 ⟨by have h8 : (0 : Int32).toInt = 0 := (by decide); omega, by show i.toInt ≤ (M.1 4 0 - 1).toInt; rw [lh_hi h4 hl]; omega⟩))
set_option maxRecDepth 20000 in
theorem c_noPart1 {M : fmM} {Q : fmR → fmM → Prop} {p : Int32} (h0 : M.1 0 0 = 0) (ht : 0 ≤ p.toInt → p.toInt ≤ 1 → Q (.inl (some (.int 0))) M) (hf : ¬ (0 ≤ p.toInt ∧ p.toInt ≤ 1) → Q (.inl (some (.int 1))) (fmI (fmI M 0 0 1) 2 1 (M.1 2 1 + 1))) : pvGood Tm 1 qX11_noPart [.ref 0, .int p, .int 1] M Q := by
  refine pvGood_of (Nat.le_of_ble_eq_true rfl) ?_
  show pvEv Tm 1 qX11_noPart 0 [some (.ref 0), some (.int p), some (.int 1)] [] M Q
  refine pv_aloadn (pc := 0) (n := 0) 0 rfl rfl (fm_dec dtX11_noPart 0 rfl) ?_
  refine pv_iloadn (pc := 1) (n := 1) 1 rfl rfl (fm_dec dtX11_noPart 1 rfl) ?_
  refine pv_iconst (pc := 2) (v := 0) (by decide) (fm_dec dtX11_noPart 2 rfl) ?_
  refine pv_iconst (pc := 3) (v := 1) (by decide) (fm_dec dtX11_noPart 3 rfl) ?_
  refine pv_iS3 (d' := 0) (pc := 4) pcs_X11_135 (Nat.le_of_ble_eq_true rfl) (by decide) (fm_dec dtX11_noPart 4 rfl) ?_
  refine c_in (fun h4a h4b => ?_) (fun h4 => ?_)
  · refine pv_then1 ?_
    refine pv_if_ne (pc := 7) 14 (by decide) (fm_dec dtX11_noPart 5 rfl) (fun _ => ?_) (fun hc7 => by exfalso; revert hc7; decide)
    refine pv_iconst (pc := 14) (v := 0) (by decide) (fm_dec dtX11_noPart 8 rfl) ?_
    refine pv_iloadn (pc := 15) (n := 2) 2 rfl rfl (fm_dec dtX11_noPart 9 rfl) ?_
    refine pv_iconst (pc := 16) (v := 1) (by decide) (fm_dec dtX11_noPart 10 rfl) ?_
    refine pv_invV3 (k := 0) (d' := 0) (pc := 17) pcv_X11_177 (by decide) rfl (Nat.le_of_ble_eq_true rfl) (by decide) (fm_dec dtX11_noPart 11 rfl) ?_
    refine c_badF1 h0 ?_
    refine pv_then1 ?_
    exact pv_zreturn (pc := 20) rfl (by first | exact Or.inr rfl | exact Or.inl rfl) (fm_dec dtX11_noPart 12 rfl) (ht h4a h4b)
  · refine pv_then1 ?_
    refine pv_if_ne (pc := 7) 14 (by decide) (fm_dec dtX11_noPart 5 rfl) (fun hc7 => by exfalso; revert hc7; decide) (fun _ => ?_)
    refine pv_iconst (pc := 10) (v := 1) (by decide) (fm_dec dtX11_noPart 6 rfl) ?_
    refine pv_goto (pc := 11) 15 (by decide) (fm_dec dtX11_noPart 7 rfl) ?_
    refine pv_iloadn (pc := 15) (n := 2) 2 rfl rfl (fm_dec dtX11_noPart 9 rfl) ?_
    refine pv_iconst (pc := 16) (v := 1) (by decide) (fm_dec dtX11_noPart 10 rfl) ?_
    refine pv_invV3 (k := 0) (d' := 0) (pc := 17) pcv_X11_177 (by decide) rfl (Nat.le_of_ble_eq_true rfl) (by decide) (fm_dec dtX11_noPart 11 rfl) ?_
    refine c_badT1 h0 (by decide) ?_
    refine pv_then1 ?_
    exact pv_zreturn (pc := 20) rfl (by first | exact Or.inr rfl | exact Or.inl rfl) (fm_dec dtX11_noPart 12 rfl) (hf h4)
set_option maxRecDepth 20000 in
theorem c_noPart2 {M : fmM} {Q : fmR → fmM → Prop} {p : Int32} (h0 : M.1 0 0 = 0) (ht : 0 ≤ p.toInt → p.toInt ≤ 1 → Q (.inl (some (.int 0))) M) (hf : ¬ (0 ≤ p.toInt ∧ p.toInt ≤ 1) → Q (.inl (some (.int 1))) (fmI (fmI M 0 0 2) 2 1 (M.1 2 1 + 1))) : pvGood Tm 1 qX11_noPart [.ref 0, .int p, .int 2] M Q := by
  refine pvGood_of (Nat.le_of_ble_eq_true rfl) ?_
  show pvEv Tm 1 qX11_noPart 0 [some (.ref 0), some (.int p), some (.int 2)] [] M Q
  refine pv_aloadn (pc := 0) (n := 0) 0 rfl rfl (fm_dec dtX11_noPart 0 rfl) ?_
  refine pv_iloadn (pc := 1) (n := 1) 1 rfl rfl (fm_dec dtX11_noPart 1 rfl) ?_
  refine pv_iconst (pc := 2) (v := 0) (by decide) (fm_dec dtX11_noPart 2 rfl) ?_
  refine pv_iconst (pc := 3) (v := 1) (by decide) (fm_dec dtX11_noPart 3 rfl) ?_
  refine pv_iS3 (d' := 0) (pc := 4) pcs_X11_135 (Nat.le_of_ble_eq_true rfl) (by decide) (fm_dec dtX11_noPart 4 rfl) ?_
  refine c_in (fun h4a h4b => ?_) (fun h4 => ?_)
  · refine pv_then1 ?_
    refine pv_if_ne (pc := 7) 14 (by decide) (fm_dec dtX11_noPart 5 rfl) (fun _ => ?_) (fun hc7 => by exfalso; revert hc7; decide)
    refine pv_iconst (pc := 14) (v := 0) (by decide) (fm_dec dtX11_noPart 8 rfl) ?_
    refine pv_iloadn (pc := 15) (n := 2) 2 rfl rfl (fm_dec dtX11_noPart 9 rfl) ?_
    refine pv_iconst (pc := 16) (v := 1) (by decide) (fm_dec dtX11_noPart 10 rfl) ?_
    refine pv_invV3 (k := 0) (d' := 0) (pc := 17) pcv_X11_177 (by decide) rfl (Nat.le_of_ble_eq_true rfl) (by decide) (fm_dec dtX11_noPart 11 rfl) ?_
    refine c_badF1 h0 ?_
    refine pv_then1 ?_
    exact pv_zreturn (pc := 20) rfl (by first | exact Or.inr rfl | exact Or.inl rfl) (fm_dec dtX11_noPart 12 rfl) (ht h4a h4b)
  · refine pv_then1 ?_
    refine pv_if_ne (pc := 7) 14 (by decide) (fm_dec dtX11_noPart 5 rfl) (fun hc7 => by exfalso; revert hc7; decide) (fun _ => ?_)
    refine pv_iconst (pc := 10) (v := 1) (by decide) (fm_dec dtX11_noPart 6 rfl) ?_
    refine pv_goto (pc := 11) 15 (by decide) (fm_dec dtX11_noPart 7 rfl) ?_
    refine pv_iloadn (pc := 15) (n := 2) 2 rfl rfl (fm_dec dtX11_noPart 9 rfl) ?_
    refine pv_iconst (pc := 16) (v := 1) (by decide) (fm_dec dtX11_noPart 10 rfl) ?_
    refine pv_invV3 (k := 0) (d' := 0) (pc := 17) pcv_X11_177 (by decide) rfl (Nat.le_of_ble_eq_true rfl) (by decide) (fm_dec dtX11_noPart 11 rfl) ?_
    refine c_badT1 h0 (by decide) ?_
    refine pv_then1 ?_
    exact pv_zreturn (pc := 20) rfl (by first | exact Or.inr rfl | exact Or.inl rfl) (fm_dec dtX11_noPart 12 rfl) (hf h4)
set_option maxRecDepth 20000 in
theorem c_hasPiece7 {M : fmM} {Q : fmR → fmM → Prop} {i : Int32} {k : Nat} (hi : i.toInt = k) (hk : k < 8) (ht : ¬ M.1 7 (1 + k) = -1000 → Q (.inl (some (.int 1))) M) (hf : M.1 7 (1 + k) = -1000 → Q (.inl (some (.int 0))) M) : pvGood Tm 0 qX11_hasPiece [.ref 7, .int i] M Q := by
  refine pvGood_of (Nat.le_of_ble_eq_true rfl) ?_
  show pvEv Tm 0 qX11_hasPiece 0 [some (.ref 7), some (.int i)] [] M Q
  refine pv_aloadn (pc := 0) (n := 0) 0 rfl rfl (fm_dec dtX11_hasPiece 0 rfl) ?_
  refine pv_iconst (pc := 1) (v := 1) (by decide) (fm_dec dtX11_hasPiece 1 rfl) ?_
  refine pv_iloadn (pc := 2) (n := 1) 1 rfl rfl (fm_dec dtX11_hasPiece 2 rfl) ?_
  refine pv_iadd (pc := 3) (fm_dec dtX11_hasPiece 3 rfl) ?_
  refine pv_iald (k := 7) (n := 14) (pc := 4) (by decide) rfl rfl (ix_in (ix_1 hi (by omega)) (by omega)) (fm_dec dtX11_hasPiece 4 rfl) ?_
  refine pv_sipush (pc := 5) (v := (-1000)) (by decide) (fm_dec dtX11_hasPiece 5 rfl) ?_
  refine pv_icmp_eq (pc := 8) 15 (by decide) (fm_dec dtX11_hasPiece 6 rfl) (fun hc8 => ?_) (fun hc8 => ?_)
  · refine pv_iconst (pc := 15) (v := 0) (by decide) (fm_dec dtX11_hasPiece 9 rfl) ?_
    exact pv_zreturn (pc := 16) rfl (by first | exact Or.inr rfl | exact Or.inl rfl) (fm_dec dtX11_hasPiece 10 rfl) (by first | exact ht (by have h9 := i32_cl (ix_1 hi (by omega)); simp only [h9] at *; assumption) | exact hf (by have h9 := i32_cl (ix_1 hi (by omega)); simp only [h9] at *; assumption))
  · refine pv_iconst (pc := 11) (v := 1) (by decide) (fm_dec dtX11_hasPiece 7 rfl) ?_
    refine pv_goto (pc := 12) 16 (by decide) (fm_dec dtX11_hasPiece 8 rfl) ?_
    exact pv_zreturn (pc := 16) rfl (by first | exact Or.inr rfl | exact Or.inl rfl) (fm_dec dtX11_hasPiece 10 rfl) (by first | exact ht (by have h9 := i32_cl (ix_1 hi (by omega)); simp only [h9] at *; assumption) | exact hf (by have h9 := i32_cl (ix_1 hi (by omega)); simp only [h9] at *; assumption))
theorem s_renew {M : fmM} {Q : fmR → fmM → Prop} {i : Int32} {k : Nat} (hi : i.toInt = k) (hk : k < 8) (hI : scInv Tm invM M) (hq : ∀ n : Int32, 1 ≤ n.toInt → n.toInt ≤ 9 → Q (.inl (some (.int n))) M) : pvGood Tm 1 qX11_renewHours [.ref 0, .int i] M Q := (hh_X11_renewHours_0 M [(k : Int)] [.ref 0, .int i] (sc_sg hi ⟨by omega, by omega⟩) ⟨⟨0, by simp, rfl⟩, ⟨i, rfl, ⟨(k : Int), rfl, hi.trans (Int.add_zero _).symm⟩⟩, trivial⟩ (fun f hf => by cases hf) hI).imp (fun r M' h => by
  obtain ⟨⟨n, rfl, h3, h4⟩, h1, h2⟩ := sc_o1 h
  rw [scFr_nil h2]
  exact hq n h3 h4)
theorem hr_19 {M : fmM} {k : Nat} (hI : scInv Tm invM M) (hk : k < 8) (hl : (k : Int) < (M.1 4 0).toInt) : 1 ≤ (M.1 (35 + k) 3).toInt ∧ (M.1 (35 + k) 3).toInt ≤ 9 := by
  refine ⟨(hI.2 rfl).2 k hk hl, ?_⟩
  have h := (hI.1 (35 + k) 3 (by rw [(rw_life.2.2.2 k hk).2.2.2.2]; decide)).2
  rcases (show k = 0 ∨ k = 1 ∨ k = 2 ∨ k = 3 ∨ k = 4 ∨ k = 5 ∨ k = 6 ∨ k = 7 by omega) with rfl | rfl | rfl | rfl | rfl | rfl | rfl | rfl <;> exact h
set_option maxRecDepth 20000 in
theorem s_hours7 {M : fmM} {Q : fmR → fmM → Prop} {i : Int32} {k : Nat} (hi : i.toInt = k) (hk : k < 8) (hl : (k : Int) < (M.1 4 0).toInt) (hI : scInv Tm invM M) (hq : ∀ n : Int32, 1 ≤ n.toInt → n.toInt ≤ 9 → Q (.inl (some (.int n))) M) : pvGood Tm 2 qX11_hoursFor [.ref 0, .ref 7, .int i] M Q := by
  refine pvGood_of (Nat.le_of_ble_eq_true rfl) ?_
  show pvEv Tm 2 qX11_hoursFor 0 [some (.ref 0), some (.ref 7), some (.int i)] [] M Q
  refine pv_aloadn (pc := 0) (n := 1) 1 rfl rfl (fm_dec dtX11_hoursFor 0 rfl) ?_
  refine pv_iloadn (pc := 1) (n := 2) 2 rfl rfl (fm_dec dtX11_hoursFor 1 rfl) ?_
  refine pv_iS2 (d' := 0) (pc := 2) pcs_X11_283 (Nat.le_of_ble_eq_true rfl) (by decide) (fm_dec dtX11_hoursFor 2 rfl) ?_
  refine c_hasPiece7 hi hk (fun _ => ?_) (fun _ => ?_)
  · refine pv_then1 ?_
    refine pv_if_eq (pc := 5) 16 (by decide) (fm_dec dtX11_hoursFor 3 rfl) (fun hc5 => by exfalso; revert hc5; decide) (fun _ => ?_)
    refine pv_aloadn (pc := 8) (n := 0) 0 rfl rfl (fm_dec dtX11_hoursFor 4 rfl) ?_
    refine pv_iloadn (pc := 9) (n := 2) 2 rfl rfl (fm_dec dtX11_hoursFor 5 rfl) ?_
    refine pv_invV1 (k := 0) (d' := 1) (pc := 10) pcv_X11_287 (by decide) rfl (Nat.le_of_ble_eq_true rfl) (by decide) (fm_dec dtX11_hoursFor 6 rfl) ?_
    refine s_renew hi hk hI (fun n9 h91 h99 => ?_)
    refine pv_then1 ?_
    refine pv_goto (pc := 13) 24 (by decide) (fm_dec dtX11_hoursFor 7 rfl) ?_
    exact pv_ireturn (pc := 24) rfl (fm_dec dtX11_hoursFor 14 rfl) (hq n9 h91 h99)
  · refine pv_then1 ?_
    refine pv_if_eq (pc := 5) 16 (by decide) (fm_dec dtX11_hoursFor 3 rfl) (fun _ => ?_) (fun hc5 => by exfalso; revert hc5; decide)
    refine pv_aloadn (pc := 16) (n := 0) 0 rfl rfl (fm_dec dtX11_hoursFor 8 rfl) ?_
    refine pv_getR (k := 0) (j := 14) (ci := 11) (pc := 17) 17 rfl (by decide) pfl_X11_31 (by decide) rfl (by decide) (fm_dec dtX11_hoursFor 9 rfl) ?_
    refine pv_iloadn (pc := 20) (n := 2) 2 rfl rfl (fm_dec dtX11_hoursFor 10 rfl) ?_
    refine pv_aald (k := 17) (n := 8) (r := (35 + k)) (pc := 21) (by decide) (Or.inr (Or.inr rfl)) rfl (rw_life.inb hi hk) (rw_life.at hi hk) (rw_life.2.2.2 _ hk).2.1 (fm_dec dtX11_hoursFor 11 rfl) ?_
    refine pv_iconst (pc := 22) (v := 3) (by decide) (fm_dec dtX11_hoursFor 12 rfl) ?_
    refine pv_iald (k := (35 + k)) (n := 6) (pc := 23) (rw_life.2.2.2 _ hk).2.2.1 (rw_life.2.2.2 _ hk).2.2.2.1 (rw_life.2.2.2 _ hk).2.2.2.2 (fm_inl (by decide)) (fm_dec dtX11_hoursFor 13 rfl) ?_
    exact pv_ireturn (pc := 24) rfl (fm_dec dtX11_hoursFor 14 rfl) (hq _ (hr_19 hI hk hl).1 (hr_19 hI hk hl).2)
theorem s_saved7 {M : fmM} {Q : fmR → fmM → Prop} {i : Int32} {k : Nat} (hi : i.toInt = k) (hk : k < 8) (hI : scInv Tm invM M) (hq : ∀ (n : Int32) (M' : fmM), scInv Tm invM M' → scFr [(5, 0, 160), (6, 0, 5)] M M' → Q (.inl (some (.int n))) M') : pvGood Tm 8 qX11_saved [.ref 0, .ref 7, .int i] M Q := (hh_X11_saved_4 M [(k : Int)] [.ref 0, .ref 7, .int i] (sc_sg hi ⟨by omega, by omega⟩) ⟨⟨0, by simp, rfl⟩, ⟨7, by simp, rfl⟩, ⟨i, rfl, ⟨(k : Int), rfl, hi.trans (Int.add_zero _).symm⟩⟩, trivial⟩ (fun f hf => by cases hf) hI).imp (fun r M' h => by
  obtain ⟨⟨n, rfl, -, -⟩, h1, h2⟩ := sc_o1 h
  exact hq n M' h1 h2)
theorem low_nz {n : Int32} (h1 : 1 ≤ n.toInt) (h9 : n.toInt ≤ 9) : ¬ (4096 * n.toInt64 : Int64) = 0 := by
  intro e
  have e1 := congrArg Int64.toInt e
  rw [Int64.toInt_mul, Int32.toInt_toInt64, show (4096 : Int64).toInt = 4096 by decide, show (0 : Int64).toInt = 0 by decide, Int.bmod_eq_of_le (by omega) (by omega)] at e1
  omega
set_option maxRecDepth 20000 in
theorem t_saves {M : fmM} {Q : fmR → fmM → Prop} {i p : Int32} (hI : scInv Tm invM M) (hq : ∀ (r : fmR) (M' : fmM), tJ r → scInv Tm invM M' → Q r M') : pvGood Tm 9 qX11_saves [.ref 0, .int i, .int p] M Q := by
  refine pvGood_of (Nat.le_of_ble_eq_true rfl) ?_
  show pvEv Tm 9 qX11_saves 0 [some (.ref 0), some (.int i), some (.int p)] [] M Q
  obtain ⟨l, h4, hl⟩ := told8 hI
  have hI0 := hI.p00 (x := 0) (Or.inl rfl)
  refine pv_aloadn (pc := 0) (n := 0) 0 rfl rfl (fm_dec dtX11_saves 0 rfl) ?_
  refine pv_iconst (pc := 1) (v := 0) (by decide) (fm_dec dtX11_saves 1 rfl) ?_
  refine pv_putI (k := 0) (j := 0) (ci := 11) (pc := 2) pfl_X11_101 (by decide) rfl (by decide) (fm_dec dtX11_saves 2 rfl) ?_
  refine pv_aloadn (pc := 5) (n := 0) 0 rfl rfl (fm_dec dtX11_saves 3 rfl) ?_
  refine pv_aloadn (pc := 6) (n := 0) 0 rfl rfl (fm_dec dtX11_saves 4 rfl) ?_
  refine pv_iloadn (pc := 7) (n := 1) 1 rfl rfl (fm_dec dtX11_saves 5 rfl) ?_
  refine pv_invV1 (k := 0) (d' := 1) (pc := 8) pcv_X11_331 (by decide) rfl (Nat.le_of_ble_eq_true rfl) (by decide) (fm_dec dtX11_saves 6 rfl) ?_
  refine c_isLife (M := fmI M 0 0 0) h4 hl (fun k hk hkl => ?_) (fun hno => ?_)
  · refine pv_then1 ?_
    refine pv_if_ne (pc := 11) 18 (by decide) (fm_dec dtX11_saves 7 rfl) (fun _ => ?_) (fun hc11 => by exfalso; revert hc11; decide)
    refine pv_iconst (pc := 18) (v := 0) (by decide) (fm_dec dtX11_saves 10 rfl) ?_
    refine pv_iconst (pc := 19) (v := 1) (by decide) (fm_dec dtX11_saves 11 rfl) ?_
    refine pv_iconst (pc := 20) (v := 0) (by decide) (fm_dec dtX11_saves 12 rfl) ?_
    refine pv_invV3 (k := 0) (d' := 0) (pc := 21) pcv_X11_177 (by decide) rfl (Nat.le_of_ble_eq_true rfl) (by decide) (fm_dec dtX11_saves 13 rfl) ?_
    refine c_badF0 rfl ?_
    refine pv_then1 ?_
    refine pv_if_ne (pc := 24) 36 (by decide) (fm_dec dtX11_saves 14 rfl) (fun hc24 => by exfalso; revert hc24; decide) (fun _ => ?_)
    refine pv_aloadn (pc := 27) (n := 0) 0 rfl rfl (fm_dec dtX11_saves 15 rfl) ?_
    refine pv_iloadn (pc := 28) (n := 2) 2 rfl rfl (fm_dec dtX11_saves 16 rfl) ?_
    refine pv_iconst (pc := 29) (v := 2) (by decide) (fm_dec dtX11_saves 17 rfl) ?_
    refine pv_invV2 (k := 0) (d' := 1) (pc := 30) pcv_X11_340 (by decide) rfl (Nat.le_of_ble_eq_true rfl) (by decide) (fm_dec dtX11_saves 18 rfl) ?_
    refine c_noPart2 rfl (fun _ _ => ?_) (fun _ => ?_)
    · refine pv_then1 ?_
      refine pv_if_eq (pc := 33) 38 (by decide) (fm_dec dtX11_saves 19 rfl) (fun _ => ?_) (fun hc33 => by exfalso; revert hc33; decide)
      refine pv_aloadn (pc := 38) (n := 0) 0 rfl rfl (fm_dec dtX11_saves 22 rfl) ?_
      refine pv_aloadn (pc := 39) (n := 0) 0 rfl rfl (fm_dec dtX11_saves 23 rfl) ?_
      refine pv_getR (k := 0) (j := 27) (ci := 11) (pc := 40) 7 rfl (by decide) pfl_X11_61 (by decide) rfl (by decide) (fm_dec dtX11_saves 24 rfl) ?_
      refine pv_iloadn (pc := 43) (n := 1) 1 rfl rfl (fm_dec dtX11_saves 25 rfl) ?_
      refine pv_invV2 (k := 0) (d' := 8) (pc := 44) pcv_X11_355 (by decide) rfl (Nat.le_of_ble_eq_true rfl) (by decide) (fm_dec dtX11_saves 26 rfl) ?_
      refine s_saved7 hk (by omega) hI0 (fun n44 M44 hI44 f44 => ?_)
      refine pv_then1 ?_
      refine pv_i2l (pc := 47) (fm_dec dtX11_saves 27 rfl) ?_
      refine pv_ldc2 (pc := 48) pkc_X11_353 (fm_dec dtX11_saves 28 rfl) ?_
      refine pv_aloadn (pc := 51) (n := 0) 0 rfl rfl (fm_dec dtX11_saves 29 rfl) ?_
      refine pv_aloadn (pc := 52) (n := 0) 0 rfl rfl (fm_dec dtX11_saves 30 rfl) ?_
      refine pv_getR (k := 0) (j := 27) (ci := 11) (pc := 53) 7 rfl (by decide) pfl_X11_61 (by decide) rfl (by decide) (fm_dec dtX11_saves 31 rfl) ?_
      refine pv_iloadn (pc := 56) (n := 1) 1 rfl rfl (fm_dec dtX11_saves 32 rfl) ?_
      refine pv_invV2 (k := 0) (d' := 2) (pc := 57) pcv_X11_290 (by decide) rfl (Nat.le_of_ble_eq_true rfl) (by decide) (fm_dec dtX11_saves 33 rfl) ?_
      refine s_hours7 hk (by omega) (by have h9 : M44.1 4 0 = M.1 4 0 := (f44 4 0 rfl).1; rw [h9, h4]; omega) hI44 (fun n57 h571 h579 => ?_)
      refine pv_then1 ?_
      refine pv_i2l (pc := 60) (fm_dec dtX11_saves 34 rfl) ?_
      refine pv_lmul (pc := 61) (fm_dec dtX11_saves 35 rfl) ?_
      refine pv_iloadn (pc := 62) (n := 2) 2 rfl rfl (fm_dec dtX11_saves 36 rfl) ?_
      refine pv_iS3 (d' := 0) (pc := 63) pcs_X11_345 (Nat.le_of_ble_eq_true rfl) (by decide) (fm_dec dtX11_saves 37 rfl) ?_
      refine c_partOf (low_nz h571 h579) (fun r63 => ?_)
      refine pv_then1 ?_
      exact pv_lreturn (pc := 66) rfl (fm_dec dtX11_saves 38 rfl) (hq _ _ ⟨_, rfl⟩ hI44)
    · refine pv_then1 ?_
      refine pv_if_eq (pc := 33) 38 (by decide) (fm_dec dtX11_saves 19 rfl) (fun hc33 => by exfalso; revert hc33; decide) (fun _ => ?_)
      refine pv_lconst (pc := 36) (v := 0) (by decide) (fm_dec dtX11_saves 20 rfl) ?_
      exact pv_lreturn (pc := 37) rfl (fm_dec dtX11_saves 21 rfl) (hq _ _ ⟨_, rfl⟩ (hI0.p00 (Or.inr (Or.inr rfl))).p2)
  · refine pv_then1 ?_
    refine pv_if_ne (pc := 11) 18 (by decide) (fm_dec dtX11_saves 7 rfl) (fun hc11 => by exfalso; revert hc11; decide) (fun _ => ?_)
    refine pv_iconst (pc := 14) (v := 1) (by decide) (fm_dec dtX11_saves 8 rfl) ?_
    refine pv_goto (pc := 15) 19 (by decide) (fm_dec dtX11_saves 9 rfl) ?_
    refine pv_iconst (pc := 19) (v := 1) (by decide) (fm_dec dtX11_saves 11 rfl) ?_
    refine pv_iconst (pc := 20) (v := 0) (by decide) (fm_dec dtX11_saves 12 rfl) ?_
    refine pv_invV3 (k := 0) (d' := 0) (pc := 21) pcv_X11_177 (by decide) rfl (Nat.le_of_ble_eq_true rfl) (by decide) (fm_dec dtX11_saves 13 rfl) ?_
    refine c_badT0 rfl (by decide) ?_
    refine pv_then1 ?_
    refine pv_if_ne (pc := 24) 36 (by decide) (fm_dec dtX11_saves 14 rfl) (fun _ => ?_) (fun hc24 => by exfalso; revert hc24; decide)
    refine pv_lconst (pc := 36) (v := 0) (by decide) (fm_dec dtX11_saves 20 rfl) ?_
    exact pv_lreturn (pc := 37) rfl (fm_dec dtX11_saves 21 rfl) (hq _ _ ⟨_, rfl⟩ (hI0.p00 (Or.inr (Or.inl rfl))).p2)
set_option maxRecDepth 20000 in
theorem c_ones {M : fmM} {Q : fmR → fmM → Prop} {b : Int32} (hq : ∀ r : Int32, Q (.inl (some (.int r))) M) : pvGood Tm 0 qX11_ones [.int b] M Q := by
  refine pvGood_of (Nat.le_of_ble_eq_true rfl) ?_
  show pvEv Tm 0 qX11_ones 0 [some (.int b), none, none] [] M Q
  refine pv_iconst (pc := 0) (v := 0) (by decide) (fm_dec dtX11_ones 0 rfl) ?_
  refine pv_istoren (pc := 1) (n := 1) 1 rfl (by decide) rfl (fm_dec dtX11_ones 1 rfl) ?_
  dsimp only [List.set_cons_zero, List.set_cons_succ]
  refine pv_iconst (pc := 2) (v := 0) (by decide) (fm_dec dtX11_ones 2 rfl) ?_
  refine pv_istoren (pc := 3) (n := 2) 2 rfl (by decide) rfl (fm_dec dtX11_ones 3 rfl) ?_
  dsimp only [List.set_cons_zero, List.set_cons_succ]
  refine pv_iloadn (pc := 4) (n := 2) 2 rfl rfl (fm_dec dtX11_ones 4 rfl) ?_
  refine pv_bipush (pc := 5) (v := 8) (by decide) (fm_dec dtX11_ones 5 rfl) ?_
  refine pv_icmp_ge (pc := 7) 24 (by decide) (fm_dec dtX11_ones 6 rfl) (fun hc7 => by exfalso; revert hc7; decide) (fun _ => ?_)
  refine pv_iloadn (pc := 10) (n := 1) 1 rfl rfl (fm_dec dtX11_ones 7 rfl) ?_
  refine pv_iloadn (pc := 11) (n := 0) 0 rfl rfl (fm_dec dtX11_ones 8 rfl) ?_
  refine pv_iloadn (pc := 12) (n := 2) 2 rfl rfl (fm_dec dtX11_ones 9 rfl) ?_
  refine pv_ishr (pc := 13) (fm_dec dtX11_ones 10 rfl) ?_
  refine pv_iconst (pc := 14) (v := 1) (by decide) (fm_dec dtX11_ones 11 rfl) ?_
  refine pv_iand (pc := 15) (fm_dec dtX11_ones 12 rfl) ?_
  refine pv_iadd (pc := 16) (fm_dec dtX11_ones 13 rfl) ?_
  refine pv_istoren (pc := 17) (n := 1) 1 rfl (by decide) rfl (fm_dec dtX11_ones 14 rfl) ?_
  dsimp only [List.set_cons_zero, List.set_cons_succ]
  refine pv_iincc (pc := 18) 2 1 (by decide) rfl (by decide) rfl (fm_dec dtX11_ones 15 rfl) ?_
  dsimp only [List.set_cons_zero, List.set_cons_succ]
  rw [show (0 : Int32) + 1 = 1 by decide]
  refine pv_goto (pc := 21) 4 (by decide) (fm_dec dtX11_ones 16 rfl) ?_
  refine pv_iloadn (pc := 4) (n := 2) 2 rfl rfl (fm_dec dtX11_ones 4 rfl) ?_
  refine pv_bipush (pc := 5) (v := 8) (by decide) (fm_dec dtX11_ones 5 rfl) ?_
  refine pv_icmp_ge (pc := 7) 24 (by decide) (fm_dec dtX11_ones 6 rfl) (fun hc7 => by exfalso; revert hc7; decide) (fun _ => ?_)
  refine pv_iloadn (pc := 10) (n := 1) 1 rfl rfl (fm_dec dtX11_ones 7 rfl) ?_
  refine pv_iloadn (pc := 11) (n := 0) 0 rfl rfl (fm_dec dtX11_ones 8 rfl) ?_
  refine pv_iloadn (pc := 12) (n := 2) 2 rfl rfl (fm_dec dtX11_ones 9 rfl) ?_
  refine pv_ishr (pc := 13) (fm_dec dtX11_ones 10 rfl) ?_
  refine pv_iconst (pc := 14) (v := 1) (by decide) (fm_dec dtX11_ones 11 rfl) ?_
  refine pv_iand (pc := 15) (fm_dec dtX11_ones 12 rfl) ?_
  refine pv_iadd (pc := 16) (fm_dec dtX11_ones 13 rfl) ?_
  refine pv_istoren (pc := 17) (n := 1) 1 rfl (by decide) rfl (fm_dec dtX11_ones 14 rfl) ?_
  dsimp only [List.set_cons_zero, List.set_cons_succ]
  refine pv_iincc (pc := 18) 2 1 (by decide) rfl (by decide) rfl (fm_dec dtX11_ones 15 rfl) ?_
  dsimp only [List.set_cons_zero, List.set_cons_succ]
  rw [show (1 : Int32) + 1 = 2 by decide]
  refine pv_goto (pc := 21) 4 (by decide) (fm_dec dtX11_ones 16 rfl) ?_
  refine pv_iloadn (pc := 4) (n := 2) 2 rfl rfl (fm_dec dtX11_ones 4 rfl) ?_
  refine pv_bipush (pc := 5) (v := 8) (by decide) (fm_dec dtX11_ones 5 rfl) ?_
  refine pv_icmp_ge (pc := 7) 24 (by decide) (fm_dec dtX11_ones 6 rfl) (fun hc7 => by exfalso; revert hc7; decide) (fun _ => ?_)
  refine pv_iloadn (pc := 10) (n := 1) 1 rfl rfl (fm_dec dtX11_ones 7 rfl) ?_
  refine pv_iloadn (pc := 11) (n := 0) 0 rfl rfl (fm_dec dtX11_ones 8 rfl) ?_
  refine pv_iloadn (pc := 12) (n := 2) 2 rfl rfl (fm_dec dtX11_ones 9 rfl) ?_
  refine pv_ishr (pc := 13) (fm_dec dtX11_ones 10 rfl) ?_
  refine pv_iconst (pc := 14) (v := 1) (by decide) (fm_dec dtX11_ones 11 rfl) ?_
  refine pv_iand (pc := 15) (fm_dec dtX11_ones 12 rfl) ?_
  refine pv_iadd (pc := 16) (fm_dec dtX11_ones 13 rfl) ?_
  refine pv_istoren (pc := 17) (n := 1) 1 rfl (by decide) rfl (fm_dec dtX11_ones 14 rfl) ?_
  dsimp only [List.set_cons_zero, List.set_cons_succ]
  refine pv_iincc (pc := 18) 2 1 (by decide) rfl (by decide) rfl (fm_dec dtX11_ones 15 rfl) ?_
  dsimp only [List.set_cons_zero, List.set_cons_succ]
  rw [show (2 : Int32) + 1 = 3 by decide]
  refine pv_goto (pc := 21) 4 (by decide) (fm_dec dtX11_ones 16 rfl) ?_
  refine pv_iloadn (pc := 4) (n := 2) 2 rfl rfl (fm_dec dtX11_ones 4 rfl) ?_
  refine pv_bipush (pc := 5) (v := 8) (by decide) (fm_dec dtX11_ones 5 rfl) ?_
  refine pv_icmp_ge (pc := 7) 24 (by decide) (fm_dec dtX11_ones 6 rfl) (fun hc7 => by exfalso; revert hc7; decide) (fun _ => ?_)
  refine pv_iloadn (pc := 10) (n := 1) 1 rfl rfl (fm_dec dtX11_ones 7 rfl) ?_
  refine pv_iloadn (pc := 11) (n := 0) 0 rfl rfl (fm_dec dtX11_ones 8 rfl) ?_
  refine pv_iloadn (pc := 12) (n := 2) 2 rfl rfl (fm_dec dtX11_ones 9 rfl) ?_
  refine pv_ishr (pc := 13) (fm_dec dtX11_ones 10 rfl) ?_
  refine pv_iconst (pc := 14) (v := 1) (by decide) (fm_dec dtX11_ones 11 rfl) ?_
  refine pv_iand (pc := 15) (fm_dec dtX11_ones 12 rfl) ?_
  refine pv_iadd (pc := 16) (fm_dec dtX11_ones 13 rfl) ?_
  refine pv_istoren (pc := 17) (n := 1) 1 rfl (by decide) rfl (fm_dec dtX11_ones 14 rfl) ?_
  dsimp only [List.set_cons_zero, List.set_cons_succ]
  refine pv_iincc (pc := 18) 2 1 (by decide) rfl (by decide) rfl (fm_dec dtX11_ones 15 rfl) ?_
  dsimp only [List.set_cons_zero, List.set_cons_succ]
  rw [show (3 : Int32) + 1 = 4 by decide]
  refine pv_goto (pc := 21) 4 (by decide) (fm_dec dtX11_ones 16 rfl) ?_
  refine pv_iloadn (pc := 4) (n := 2) 2 rfl rfl (fm_dec dtX11_ones 4 rfl) ?_
  refine pv_bipush (pc := 5) (v := 8) (by decide) (fm_dec dtX11_ones 5 rfl) ?_
  refine pv_icmp_ge (pc := 7) 24 (by decide) (fm_dec dtX11_ones 6 rfl) (fun hc7 => by exfalso; revert hc7; decide) (fun _ => ?_)
  refine pv_iloadn (pc := 10) (n := 1) 1 rfl rfl (fm_dec dtX11_ones 7 rfl) ?_
  refine pv_iloadn (pc := 11) (n := 0) 0 rfl rfl (fm_dec dtX11_ones 8 rfl) ?_
  refine pv_iloadn (pc := 12) (n := 2) 2 rfl rfl (fm_dec dtX11_ones 9 rfl) ?_
  refine pv_ishr (pc := 13) (fm_dec dtX11_ones 10 rfl) ?_
  refine pv_iconst (pc := 14) (v := 1) (by decide) (fm_dec dtX11_ones 11 rfl) ?_
  refine pv_iand (pc := 15) (fm_dec dtX11_ones 12 rfl) ?_
  refine pv_iadd (pc := 16) (fm_dec dtX11_ones 13 rfl) ?_
  refine pv_istoren (pc := 17) (n := 1) 1 rfl (by decide) rfl (fm_dec dtX11_ones 14 rfl) ?_
  dsimp only [List.set_cons_zero, List.set_cons_succ]
  refine pv_iincc (pc := 18) 2 1 (by decide) rfl (by decide) rfl (fm_dec dtX11_ones 15 rfl) ?_
  dsimp only [List.set_cons_zero, List.set_cons_succ]
  rw [show (4 : Int32) + 1 = 5 by decide]
  refine pv_goto (pc := 21) 4 (by decide) (fm_dec dtX11_ones 16 rfl) ?_
  refine pv_iloadn (pc := 4) (n := 2) 2 rfl rfl (fm_dec dtX11_ones 4 rfl) ?_
  refine pv_bipush (pc := 5) (v := 8) (by decide) (fm_dec dtX11_ones 5 rfl) ?_
  refine pv_icmp_ge (pc := 7) 24 (by decide) (fm_dec dtX11_ones 6 rfl) (fun hc7 => by exfalso; revert hc7; decide) (fun _ => ?_)
  refine pv_iloadn (pc := 10) (n := 1) 1 rfl rfl (fm_dec dtX11_ones 7 rfl) ?_
  refine pv_iloadn (pc := 11) (n := 0) 0 rfl rfl (fm_dec dtX11_ones 8 rfl) ?_
  refine pv_iloadn (pc := 12) (n := 2) 2 rfl rfl (fm_dec dtX11_ones 9 rfl) ?_
  refine pv_ishr (pc := 13) (fm_dec dtX11_ones 10 rfl) ?_
  refine pv_iconst (pc := 14) (v := 1) (by decide) (fm_dec dtX11_ones 11 rfl) ?_
  refine pv_iand (pc := 15) (fm_dec dtX11_ones 12 rfl) ?_
  refine pv_iadd (pc := 16) (fm_dec dtX11_ones 13 rfl) ?_
  refine pv_istoren (pc := 17) (n := 1) 1 rfl (by decide) rfl (fm_dec dtX11_ones 14 rfl) ?_
  dsimp only [List.set_cons_zero, List.set_cons_succ]
  refine pv_iincc (pc := 18) 2 1 (by decide) rfl (by decide) rfl (fm_dec dtX11_ones 15 rfl) ?_
  dsimp only [List.set_cons_zero, List.set_cons_succ]
  rw [show (5 : Int32) + 1 = 6 by decide]
  refine pv_goto (pc := 21) 4 (by decide) (fm_dec dtX11_ones 16 rfl) ?_
  refine pv_iloadn (pc := 4) (n := 2) 2 rfl rfl (fm_dec dtX11_ones 4 rfl) ?_
  refine pv_bipush (pc := 5) (v := 8) (by decide) (fm_dec dtX11_ones 5 rfl) ?_
  refine pv_icmp_ge (pc := 7) 24 (by decide) (fm_dec dtX11_ones 6 rfl) (fun hc7 => by exfalso; revert hc7; decide) (fun _ => ?_)
  refine pv_iloadn (pc := 10) (n := 1) 1 rfl rfl (fm_dec dtX11_ones 7 rfl) ?_
  refine pv_iloadn (pc := 11) (n := 0) 0 rfl rfl (fm_dec dtX11_ones 8 rfl) ?_
  refine pv_iloadn (pc := 12) (n := 2) 2 rfl rfl (fm_dec dtX11_ones 9 rfl) ?_
  refine pv_ishr (pc := 13) (fm_dec dtX11_ones 10 rfl) ?_
  refine pv_iconst (pc := 14) (v := 1) (by decide) (fm_dec dtX11_ones 11 rfl) ?_
  refine pv_iand (pc := 15) (fm_dec dtX11_ones 12 rfl) ?_
  refine pv_iadd (pc := 16) (fm_dec dtX11_ones 13 rfl) ?_
  refine pv_istoren (pc := 17) (n := 1) 1 rfl (by decide) rfl (fm_dec dtX11_ones 14 rfl) ?_
  dsimp only [List.set_cons_zero, List.set_cons_succ]
  refine pv_iincc (pc := 18) 2 1 (by decide) rfl (by decide) rfl (fm_dec dtX11_ones 15 rfl) ?_
  dsimp only [List.set_cons_zero, List.set_cons_succ]
  rw [show (6 : Int32) + 1 = 7 by decide]
  refine pv_goto (pc := 21) 4 (by decide) (fm_dec dtX11_ones 16 rfl) ?_
  refine pv_iloadn (pc := 4) (n := 2) 2 rfl rfl (fm_dec dtX11_ones 4 rfl) ?_
  refine pv_bipush (pc := 5) (v := 8) (by decide) (fm_dec dtX11_ones 5 rfl) ?_
  refine pv_icmp_ge (pc := 7) 24 (by decide) (fm_dec dtX11_ones 6 rfl) (fun hc7 => by exfalso; revert hc7; decide) (fun _ => ?_)
  refine pv_iloadn (pc := 10) (n := 1) 1 rfl rfl (fm_dec dtX11_ones 7 rfl) ?_
  refine pv_iloadn (pc := 11) (n := 0) 0 rfl rfl (fm_dec dtX11_ones 8 rfl) ?_
  refine pv_iloadn (pc := 12) (n := 2) 2 rfl rfl (fm_dec dtX11_ones 9 rfl) ?_
  refine pv_ishr (pc := 13) (fm_dec dtX11_ones 10 rfl) ?_
  refine pv_iconst (pc := 14) (v := 1) (by decide) (fm_dec dtX11_ones 11 rfl) ?_
  refine pv_iand (pc := 15) (fm_dec dtX11_ones 12 rfl) ?_
  refine pv_iadd (pc := 16) (fm_dec dtX11_ones 13 rfl) ?_
  refine pv_istoren (pc := 17) (n := 1) 1 rfl (by decide) rfl (fm_dec dtX11_ones 14 rfl) ?_
  dsimp only [List.set_cons_zero, List.set_cons_succ]
  refine pv_iincc (pc := 18) 2 1 (by decide) rfl (by decide) rfl (fm_dec dtX11_ones 15 rfl) ?_
  dsimp only [List.set_cons_zero, List.set_cons_succ]
  rw [show (7 : Int32) + 1 = 8 by decide]
  refine pv_goto (pc := 21) 4 (by decide) (fm_dec dtX11_ones 16 rfl) ?_
  refine pv_iloadn (pc := 4) (n := 2) 2 rfl rfl (fm_dec dtX11_ones 4 rfl) ?_
  refine pv_bipush (pc := 5) (v := 8) (by decide) (fm_dec dtX11_ones 5 rfl) ?_
  refine pv_icmp_ge (pc := 7) 24 (by decide) (fm_dec dtX11_ones 6 rfl) (fun _ => ?_) (fun hc7 => by exfalso; revert hc7; decide)
  refine pv_iloadn (pc := 24) (n := 1) 1 rfl rfl (fm_dec dtX11_ones 17 rfl) ?_
  exact pv_ireturn (pc := 25) rfl (fm_dec dtX11_ones 18 rfl) (hq _)
set_option maxRecDepth 20000 in
theorem ch_loop {Q : fmR → fmM → Prop} {M : fmM} {i what : Int32} (hI : scInv Tm invM M) (hq : ∀ n : Int32, Q (.inl (some (.int n))) M) : ∀ (m : Nat) (been last : Int32) (w kl : Nat), been = nI w → w < 256 → 8 - pop8 w = m → last.toInt = kl → kl < 8 → pvEv Tm 2 qX11_chain 59 [some (.ref 0), some (.int i), some (.int what), some (.int been), some (.int last)] [] M Q := by
  intro m
  induction m using Nat.strongRecOn with
  | _ m ih =>
    intro been last w kl hbe hw hm hkl hkl8
    refine pv_aloadn (pc := 59) (n := 0) 0 rfl rfl (fm_dec dtX11_chain 36 rfl) ?_
    refine pv_getR (k := 0) (j := 14) (ci := 11) (pc := 60) 17 rfl (by decide) pfl_X11_31 (by decide) rfl (by decide) (fm_dec dtX11_chain 37 rfl) ?_
    refine pv_iload (pc := 63) (i := 4) rfl (fm_dec dtX11_chain 38 rfl) ?_
    refine pv_aald (k := 17) (n := 8) (r := (35 + kl)) (pc := 65) (by decide) (Or.inr (Or.inr rfl)) rfl (rw_life.inb hkl hkl8) (rw_life.at hkl hkl8) (rw_life.2.2.2 _ hkl8).2.1 (fm_dec dtX11_chain 39 rfl) ?_
    refine pv_iconst (pc := 66) (v := 5) (by decide) (fm_dec dtX11_chain 40 rfl) ?_
    refine pv_iald (k := (35 + kl)) (n := 6) (pc := 67) (rw_life.2.2.2 _ hkl8).2.2.1 (rw_life.2.2.2 _ hkl8).2.2.2.1 (rw_life.2.2.2 _ hkl8).2.2.2.2 (fm_inl (by decide)) (fm_dec dtX11_chain 41 rfl) ?_
    refine pv_iconst (pc := 68) (v := (-1)) (by decide) (fm_dec dtX11_chain 42 rfl) ?_
    refine pv_icmp_eq (pc := 69) 109 (by decide) (fm_dec dtX11_chain 43 rfl) (fun hc69 => ?_) (fun hc69 => ?_)
    · refine pv_iloadn (pc := 109) (n := 2) 2 rfl rfl (fm_dec dtX11_chain 67 rfl) ?_
      refine pv_if_ne (pc := 110) 120 (by decide) (fm_dec dtX11_chain 68 rfl) (fun hc110 => ?_) (fun hc110 => ?_)
      · refine pv_iload (pc := 120) (i := 4) rfl (fm_dec dtX11_chain 72 rfl) ?_
        exact pv_ireturn (pc := 122) rfl (fm_dec dtX11_chain 73 rfl) (hq _)
      · refine pv_iloadn (pc := 113) (n := 3) 3 rfl rfl (fm_dec dtX11_chain 69 rfl) ?_
        refine pv_iS1 (d' := 0) (pc := 114) pcs_X11_416 (Nat.le_of_ble_eq_true rfl) (by decide) (fm_dec dtX11_chain 70 rfl) ?_
        refine c_ones (fun r114 => ?_)
        refine pv_then1 ?_
        refine pv_goto (pc := 117) 122 (by decide) (fm_dec dtX11_chain 71 rfl) ?_
        exact pv_ireturn (pc := 122) rfl (fm_dec dtX11_chain 73 rfl) (hq _)
    · obtain ⟨v, hv8, hve, hvi⟩ := by_k (x := M.1 (35 + kl) (Int32.toNatClampNeg 5)) rfl hI hkl8 hc69
      refine pv_iloadn (pc := 72) (n := 3) 3 rfl rfl (fm_dec dtX11_chain 44 rfl) ?_
      refine pv_aloadn (pc := 73) (n := 0) 0 rfl rfl (fm_dec dtX11_chain 45 rfl) ?_
      refine pv_getR (k := 0) (j := 14) (ci := 11) (pc := 74) 17 rfl (by decide) pfl_X11_31 (by decide) rfl (by decide) (fm_dec dtX11_chain 46 rfl) ?_
      refine pv_iload (pc := 77) (i := 4) rfl (fm_dec dtX11_chain 47 rfl) ?_
      refine pv_aald (k := 17) (n := 8) (r := (35 + kl)) (pc := 79) (by decide) (Or.inr (Or.inr rfl)) rfl (rw_life.inb hkl hkl8) (rw_life.at hkl hkl8) (rw_life.2.2.2 _ hkl8).2.1 (fm_dec dtX11_chain 48 rfl) ?_
      refine pv_iconst (pc := 80) (v := 5) (by decide) (fm_dec dtX11_chain 49 rfl) ?_
      refine pv_iald (k := (35 + kl)) (n := 6) (pc := 81) (rw_life.2.2.2 _ hkl8).2.2.1 (rw_life.2.2.2 _ hkl8).2.2.2.1 (rw_life.2.2.2 _ hkl8).2.2.2.2 (fm_inl (by decide)) (fm_dec dtX11_chain 50 rfl) ?_
      refine pv_iS2 (d' := 0) (pc := 82) pcs_X11_256 (Nat.le_of_ble_eq_true rfl) (by decide) (fm_dec dtX11_chain 51 rfl) ?_
      refine c_has (fun h82 => ?_) (fun h82 => ?_)
      · refine pv_then1 ?_
        refine pv_if_ne (pc := 85) 109 (by decide) (fm_dec dtX11_chain 52 rfl) (fun _ => ?_) (fun hc85 => by exfalso; revert hc85; decide)
        refine pv_iloadn (pc := 109) (n := 2) 2 rfl rfl (fm_dec dtX11_chain 67 rfl) ?_
        refine pv_if_ne (pc := 110) 120 (by decide) (fm_dec dtX11_chain 68 rfl) (fun hc110 => ?_) (fun hc110 => ?_)
        · refine pv_iload (pc := 120) (i := 4) rfl (fm_dec dtX11_chain 72 rfl) ?_
          exact pv_ireturn (pc := 122) rfl (fm_dec dtX11_chain 73 rfl) (hq _)
        · refine pv_iloadn (pc := 113) (n := 3) 3 rfl rfl (fm_dec dtX11_chain 69 rfl) ?_
          refine pv_iS1 (d' := 0) (pc := 114) pcs_X11_416 (Nat.le_of_ble_eq_true rfl) (by decide) (fm_dec dtX11_chain 70 rfl) ?_
          refine c_ones (fun r114 => ?_)
          refine pv_then1 ?_
          refine pv_goto (pc := 117) 122 (by decide) (fm_dec dtX11_chain 71 rfl) ?_
          exact pv_ireturn (pc := 122) rfl (fm_dec dtX11_chain 73 rfl) (hq _)
      · refine pv_then1 ?_
        refine pv_if_ne (pc := 85) 109 (by decide) (fm_dec dtX11_chain 52 rfl) (fun hc85 => by exfalso; revert hc85; decide) (fun _ => ?_)
        refine pv_aloadn (pc := 88) (n := 0) 0 rfl rfl (fm_dec dtX11_chain 53 rfl) ?_
        refine pv_getR (k := 0) (j := 14) (ci := 11) (pc := 89) 17 rfl (by decide) pfl_X11_31 (by decide) rfl (by decide) (fm_dec dtX11_chain 54 rfl) ?_
        refine pv_iload (pc := 92) (i := 4) rfl (fm_dec dtX11_chain 55 rfl) ?_
        refine pv_aald (k := 17) (n := 8) (r := (35 + kl)) (pc := 94) (by decide) (Or.inr (Or.inr rfl)) rfl (rw_life.inb hkl hkl8) (rw_life.at hkl hkl8) (rw_life.2.2.2 _ hkl8).2.1 (fm_dec dtX11_chain 56 rfl) ?_
        refine pv_iconst (pc := 95) (v := 5) (by decide) (fm_dec dtX11_chain 57 rfl) ?_
        refine pv_iald (k := (35 + kl)) (n := 6) (pc := 96) (rw_life.2.2.2 _ hkl8).2.2.1 (rw_life.2.2.2 _ hkl8).2.2.2.1 (rw_life.2.2.2 _ hkl8).2.2.2.2 (fm_inl (by decide)) (fm_dec dtX11_chain 58 rfl) ?_
        refine pv_istore (pc := 97) (i := 4) (by decide) rfl (fm_dec dtX11_chain 59 rfl) ?_
        dsimp only [List.set_cons_zero, List.set_cons_succ]
        refine pv_iloadn (pc := 99) (n := 3) 3 rfl rfl (fm_dec dtX11_chain 60 rfl) ?_
        refine pv_iconst (pc := 100) (v := 1) (by decide) (fm_dec dtX11_chain 61 rfl) ?_
        refine pv_iload (pc := 101) (i := 4) rfl (fm_dec dtX11_chain 62 rfl) ?_
        refine pv_ishl (pc := 103) (fm_dec dtX11_chain 63 rfl) ?_
        refine pv_ior (pc := 104) (fm_dec dtX11_chain 64 rfl) ?_
        refine pv_istoren (pc := 105) (n := 3) 3 rfl (by decide) rfl (fm_dec dtX11_chain 65 rfl) ?_
        dsimp only [List.set_cons_zero, List.set_cons_succ]
        refine pv_goto (pc := 106) 59 (by decide) (fm_dec dtX11_chain 66 rfl) ?_
        have hnb : w.testBit v = false := Bool.eq_false_iff.mpr (fun h9 => h82 (by rw [hbe, hve]; exact (has8 w hw v hv8).mpr h9))
        have hp := pop8_add w hw v hv8 hnb
        have hle := pop8_le _ hp.2
        exact ih (8 - pop8 (w ||| 1 <<< v)) (by omega) _ _ (w ||| 1 <<< v) v (by rw [hbe, hve]; exact or8 w hw v hv8) hp.2 rfl hvi hv8
set_option maxRecDepth 20000 in
theorem t_chain {M : fmM} {Q : fmR → fmM → Prop} {i p : Int32} (hI : scInv Tm invM M) (hq : ∀ (r : fmR) (M' : fmM), tI r → scInv Tm invM M' → Q r M') : pvGood Tm 2 qX11_chain [.ref 0, .int i, .int p] M Q := by
  refine pvGood_of (Nat.le_of_ble_eq_true rfl) ?_
  show pvEv Tm 2 qX11_chain 0 [some (.ref 0), some (.int i), some (.int p), none, none] [] M Q
  obtain ⟨l, h4, hl⟩ := told8 hI
  have hI0 := hI.p00 (x := 0) (Or.inl rfl)
  refine pv_aloadn (pc := 0) (n := 0) 0 rfl rfl (fm_dec dtX11_chain 0 rfl) ?_
  refine pv_iconst (pc := 1) (v := 0) (by decide) (fm_dec dtX11_chain 1 rfl) ?_
  refine pv_putI (k := 0) (j := 0) (ci := 11) (pc := 2) pfl_X11_101 (by decide) rfl (by decide) (fm_dec dtX11_chain 2 rfl) ?_
  refine pv_aloadn (pc := 5) (n := 0) 0 rfl rfl (fm_dec dtX11_chain 3 rfl) ?_
  refine pv_aloadn (pc := 6) (n := 0) 0 rfl rfl (fm_dec dtX11_chain 4 rfl) ?_
  refine pv_iloadn (pc := 7) (n := 1) 1 rfl rfl (fm_dec dtX11_chain 5 rfl) ?_
  refine pv_invV1 (k := 0) (d' := 1) (pc := 8) pcv_X11_331 (by decide) rfl (Nat.le_of_ble_eq_true rfl) (by decide) (fm_dec dtX11_chain 6 rfl) ?_
  refine c_isLife (M := fmI M 0 0 0) h4 hl (fun k hk hkl => ?_) (fun hno => ?_)
  · refine pv_then1 ?_
    refine pv_if_ne (pc := 11) 18 (by decide) (fm_dec dtX11_chain 7 rfl) (fun _ => ?_) (fun hc11 => by exfalso; revert hc11; decide)
    refine pv_iconst (pc := 18) (v := 0) (by decide) (fm_dec dtX11_chain 10 rfl) ?_
    refine pv_iconst (pc := 19) (v := 1) (by decide) (fm_dec dtX11_chain 11 rfl) ?_
    refine pv_iconst (pc := 20) (v := 0) (by decide) (fm_dec dtX11_chain 12 rfl) ?_
    refine pv_invV3 (k := 0) (d' := 0) (pc := 21) pcv_X11_177 (by decide) rfl (Nat.le_of_ble_eq_true rfl) (by decide) (fm_dec dtX11_chain 13 rfl) ?_
    refine c_badF0 rfl ?_
    refine pv_then1 ?_
    refine pv_if_ne (pc := 24) 50 (by decide) (fm_dec dtX11_chain 14 rfl) (fun hc24 => by exfalso; revert hc24; decide) (fun _ => ?_)
    refine pv_aloadn (pc := 27) (n := 0) 0 rfl rfl (fm_dec dtX11_chain 15 rfl) ?_
    refine pv_iloadn (pc := 28) (n := 2) 2 rfl rfl (fm_dec dtX11_chain 16 rfl) ?_
    refine pv_iconst (pc := 29) (v := 0) (by decide) (fm_dec dtX11_chain 17 rfl) ?_
    refine pv_iconst (pc := 30) (v := 1) (by decide) (fm_dec dtX11_chain 18 rfl) ?_
    refine pv_iS3 (d' := 0) (pc := 31) pcs_X11_135 (Nat.le_of_ble_eq_true rfl) (by decide) (fm_dec dtX11_chain 19 rfl) ?_
    refine c_in (fun h31a h31b => ?_) (fun h31 => ?_)
    · refine pv_then1 ?_
      refine pv_if_ne (pc := 34) 41 (by decide) (fm_dec dtX11_chain 20 rfl) (fun _ => ?_) (fun hc34 => by exfalso; revert hc34; decide)
      refine pv_iconst (pc := 41) (v := 0) (by decide) (fm_dec dtX11_chain 23 rfl) ?_
      refine pv_iconst (pc := 42) (v := 2) (by decide) (fm_dec dtX11_chain 24 rfl) ?_
      refine pv_iconst (pc := 43) (v := 1) (by decide) (fm_dec dtX11_chain 25 rfl) ?_
      refine pv_invV3 (k := 0) (d' := 0) (pc := 44) pcv_X11_177 (by decide) rfl (Nat.le_of_ble_eq_true rfl) (by decide) (fm_dec dtX11_chain 26 rfl) ?_
      refine c_badF1 rfl ?_
      refine pv_then1 ?_
      refine pv_if_eq (pc := 47) 52 (by decide) (fm_dec dtX11_chain 27 rfl) (fun _ => ?_) (fun hc47 => by exfalso; revert hc47; decide)
      refine pv_iconst (pc := 52) (v := 1) (by decide) (fm_dec dtX11_chain 30 rfl) ?_
      refine pv_iloadn (pc := 53) (n := 1) 1 rfl rfl (fm_dec dtX11_chain 31 rfl) ?_
      refine pv_ishl (pc := 54) (fm_dec dtX11_chain 32 rfl) ?_
      refine pv_istoren (pc := 55) (n := 3) 3 rfl (by decide) rfl (fm_dec dtX11_chain 33 rfl) ?_
      dsimp only [List.set_cons_zero, List.set_cons_succ]
      refine pv_iloadn (pc := 56) (n := 1) 1 rfl rfl (fm_dec dtX11_chain 34 rfl) ?_
      refine pv_istore (pc := 57) (i := 4) (by decide) rfl (fm_dec dtX11_chain 35 rfl) ?_
      dsimp only [List.set_cons_zero, List.set_cons_succ]
      have hi9 : i = nI k := nI_is hk (by omega)
      exact ch_loop hI0 (fun n => hq _ _ ⟨n, rfl⟩ hI0) _ _ _ (1 <<< k) k (by rw [hi9]; exact (one8 k (by omega)).1) (one8 k (by omega)).2 rfl hk (by omega)
    · refine pv_then1 ?_
      refine pv_if_ne (pc := 34) 41 (by decide) (fm_dec dtX11_chain 20 rfl) (fun hc34 => by exfalso; revert hc34; decide) (fun _ => ?_)
      refine pv_iconst (pc := 37) (v := 1) (by decide) (fm_dec dtX11_chain 21 rfl) ?_
      refine pv_goto (pc := 38) 42 (by decide) (fm_dec dtX11_chain 22 rfl) ?_
      refine pv_iconst (pc := 42) (v := 2) (by decide) (fm_dec dtX11_chain 24 rfl) ?_
      refine pv_iconst (pc := 43) (v := 1) (by decide) (fm_dec dtX11_chain 25 rfl) ?_
      refine pv_invV3 (k := 0) (d' := 0) (pc := 44) pcv_X11_177 (by decide) rfl (Nat.le_of_ble_eq_true rfl) (by decide) (fm_dec dtX11_chain 26 rfl) ?_
      refine c_badT1 rfl (by decide) ?_
      refine pv_then1 ?_
      refine pv_if_eq (pc := 47) 52 (by decide) (fm_dec dtX11_chain 27 rfl) (fun hc47 => by exfalso; revert hc47; decide) (fun _ => ?_)
      refine pv_iconst (pc := 50) (v := 0) (by decide) (fm_dec dtX11_chain 28 rfl) ?_
      exact pv_ireturn (pc := 51) rfl (fm_dec dtX11_chain 29 rfl) (hq _ _ ⟨_, rfl⟩ (hI0.p00 (Or.inr (Or.inr rfl))).p2)
  · refine pv_then1 ?_
    refine pv_if_ne (pc := 11) 18 (by decide) (fm_dec dtX11_chain 7 rfl) (fun hc11 => by exfalso; revert hc11; decide) (fun _ => ?_)
    refine pv_iconst (pc := 14) (v := 1) (by decide) (fm_dec dtX11_chain 8 rfl) ?_
    refine pv_goto (pc := 15) 19 (by decide) (fm_dec dtX11_chain 9 rfl) ?_
    refine pv_iconst (pc := 19) (v := 1) (by decide) (fm_dec dtX11_chain 11 rfl) ?_
    refine pv_iconst (pc := 20) (v := 0) (by decide) (fm_dec dtX11_chain 12 rfl) ?_
    refine pv_invV3 (k := 0) (d' := 0) (pc := 21) pcv_X11_177 (by decide) rfl (Nat.le_of_ble_eq_true rfl) (by decide) (fm_dec dtX11_chain 13 rfl) ?_
    refine c_badT0 rfl (by decide) ?_
    refine pv_then1 ?_
    refine pv_if_ne (pc := 24) 50 (by decide) (fm_dec dtX11_chain 14 rfl) (fun _ => ?_) (fun hc24 => by exfalso; revert hc24; decide)
    refine pv_iconst (pc := 50) (v := 0) (by decide) (fm_dec dtX11_chain 28 rfl) ?_
    exact pv_ireturn (pc := 51) rfl (fm_dec dtX11_chain 29 rfl) (hq _ _ ⟨_, rfl⟩ (hI0.p00 (Or.inr (Or.inl rfl))).p2)
theorem inv_top {k : Nat} (h : k = 3 ∨ (27 ≤ k ∧ k < 35) ∨ (43 ≤ k ∧ k < 67) ∨ (91 ≤ k ∧ k < 411) ∨ (417 ≤ k ∧ k < 503)) (j : Nat) : scAt (invM k) j = scTop := by
  by_cases h3 : k = 3
  · subst h3
    rfl
  · have e : invM k = [((-2147483648), 2147483647)] := by
      unfold invM
      rw [if_neg (show ¬ k = 999 by omega), if_neg (show ¬ k < 27 by omega)]
      by_cases h1 : k < 35
      · rw [if_pos h1]
      · rw [if_neg h1, if_neg (show ¬ k < 43 by omega)]
        by_cases h2 : k < 67
        · rw [if_pos h2]
        · rw [if_neg h2, if_neg (show ¬ k < 91 by omega)]
          by_cases h4 : k < 251
          · rw [if_pos h4]
          · rw [if_neg h4]
            by_cases h5 : k < 411
            · rw [if_pos h5]
            · rw [if_neg h5, if_neg (show ¬ k < 417 by omega)]
              by_cases h6 : k < 423
              · rw [if_pos h6]
              · rw [if_neg h6, if_pos (show k < 503 by omega)]
    rw [e]
    rfl
theorem inv_0 : ∀ j, j < 49 → ¬ (j = 0 ∨ j = 1 ∨ j = 3 ∨ j = 31 ∨ j = 32 ∨ j = 34) → scAt (invM 0) j = scTop := by decide
/-- the invariant, cell by cell: what stays, what is free, the rest by itself -/
theorem scInv.by {M M' : fmM} (hI : scInv Tm invM M) (h0 : ∀ j, (j = 0 ∨ j = 1 ∨ j = 3 ∨ j = 31 ∨ j = 32 ∨ j = 34) → (scAt (invM 0) j).1 ≤ (M'.1 0 j).toInt ∧ (M'.1 0 j).toInt ≤ (scAt (invM 0) j).2) (h : ∀ k j, k ≠ 0 → j < Tm.2.2.1 k → M'.1 k j = M.1 k j ∨ scAt (invM k) j = scTop ∨ ((scAt (invM k) j).1 ≤ (M'.1 k j).toInt ∧ (M'.1 k j).toInt ≤ (scAt (invM k) j).2)) (hJ : jmOk M'.1) : scInv Tm invM M' := by
  refine ⟨fun k j hj => ?_, fun _ => hJ⟩
  by_cases e : k = 0
  · subst e
    by_cases e2 : j = 0 ∨ j = 1 ∨ j = 3 ∨ j = 31 ∨ j = 32 ∨ j = 34
    · exact h0 j e2
    · rw [inv_0 j hj e2]
      exact scq_t _
  · rcases h k j e hj with h1 | h1 | h1
    · rw [h1]
      exact hI.1 k j hj
    · rw [h1]
      exact scq_t _
    · exact h1
theorem inv_fed {M : fmM} (hI : scInv Tm invM M) : rFed M := fun i hi => hI.1 1 i hi
theorem inv_rf {M : fmM} {w : Int32} {r : Nat} (hI : scInv Tm invM M) (hw : w = 0 ∨ w = 1 ∨ w = 2) : scInv Tm invM (rfM M w r) := ((hI.p00 (Or.inl rfl)).p00 hw).p2
theorem inv_c0 {M M' : fmM} (hI : scInv Tm invM M) {a : Int} (h00 : M'.1 0 0 = 0) (h01 : M'.1 0 1 = 0) (h03 : (M'.1 0 3).toInt = a) (ha : -1 ≤ a ∧ a ≤ 600) (h31 : M'.1 0 31 = M.1 0 31 ∨ (0 ≤ (M'.1 0 31).toInt ∧ (M'.1 0 31).toInt ≤ 6)) (h32 : M'.1 0 32 = M.1 0 32 ∨ M'.1 0 32 = 0) (h34 : M'.1 0 34 = M.1 0 34 ∨ M'.1 0 34 = 0) : ∀ j, (j = 0 ∨ j = 1 ∨ j = 3 ∨ j = 31 ∨ j = 32 ∨ j = 34) → (scAt (invM 0) j).1 ≤ (M'.1 0 j).toInt ∧ (M'.1 0 j).toInt ≤ (scAt (invM 0) j).2 := by
  intro j hj
  rcases hj with rfl | rfl | rfl | rfl | rfl | rfl
  · rw [h00]; decide
  · rw [h01]; decide
  · rw [h03]; exact ha
  · rcases h31 with h | h
    · rw [h]; exact hI.1 0 31 (by decide)
    · exact h
  · rcases h32 with h | h
    · rw [h]; exact hI.1 0 32 (by decide)
    · rw [h]; decide
  · rcases h34 with h | h
    · rw [h]; exact hI.1 0 34 (by decide)
    · rw [h]; decide
theorem jm_hours {M M' : fmM} (hI : scInv Tm invM M) (h4 : M'.1 4 0 = M.1 4 0) (h : ∀ k j, 35 ≤ k → k < 43 → M'.1 k j = M.1 k j) : ∀ i : Nat, i < 8 → (i : Int) < (M'.1 4 0).toInt → 1 ≤ (M'.1 (35 + i) 3).toInt := fun i hi hl => by
  rw [h _ _ (by omega) (by omega)]
  rw [h4] at hl
  exact (hI.2 rfl).2 i hi hl
theorem inv_law {M M' : fmM} {cs : tC} (hI : scInv Tm invM M) (hd : dpR 0 cs = some 1) (h : lawOk M M' cs) : scInv Tm invM M' := by
  obtain ⟨⟨h1, h2⟩, h3, h4, h5, h6, h7, h8, h9⟩ := h
  refine hI.by (inv_c0 hI h1 h2 (a := -1) (by rw [h3]; decide) (by decide) (Or.inl (h8 31 (by decide) (by decide) (by decide))) (Or.inl (h8 32 (by decide) (by decide) (by decide))) (Or.inl (h8 34 (by decide) (by decide) (by decide)))) (fun k j hk hj => ?_) ⟨⟨cs, h4, by omega, Or.inr hd, h6⟩, jm_hours hI (h7 4 0 (by decide) (by omega)) (fun k j a b => h7 k j (by omega) (by omega))⟩
  by_cases e : 91 ≤ k ∧ k < 411
  · exact Or.inr (Or.inl (inv_top (by omega) j))
  · exact Or.inl (h7 k j hk e)
theorem inv_lawB {M M' : fmM} {a : Nat} (hI : scInv Tm invM M) (h : lawBad M M' a) : scInv Tm invM M' := by
  obtain ⟨⟨h1, h2⟩, h3, h4, h5, h6, h7, h8, h9⟩ := h
  obtain ⟨⟨cs, j1, j2, j3, j4⟩, -⟩ := hI.2 rfl
  refine hI.by (inv_c0 hI h1 h2 (a := a) h3 (by omega) (Or.inl (h8 31 (by decide) (by decide) (by decide))) (Or.inl (h8 32 (by decide) (by decide) (by decide))) (Or.inl (h8 34 (by decide) (by decide) (by decide)))) (fun k j hk hj => ?_) ⟨⟨cs, (by rw [h5]; exact j1), j2, j3, fun i c hi => ?_⟩, jm_hours hI (h7 4 0 (by decide) (by omega)) (fun k j a b => h7 k j (by omega) (by omega))⟩
  · by_cases e : 91 ≤ k ∧ k < 411
    · exact Or.inr (Or.inl (inv_top (by omega) j))
    · exact Or.inl (h7 k j hk e)
  · have hl : i < cs.length := (List.getElem?_eq_some_iff.mp hi).1
    rw [h6 _ _ (by omega) (by omega), h6 _ _ (by omega) (by omega)]
    exact j4 i c hi
theorem t_law {M : fmM} {Q : fmR → fmM → Prop} {nn : Int32} (hI : scInv Tm invM M) (hq : ∀ (r : fmR) (M' : fmM), tI r → scInv Tm invM M' → Q r M') : pvGood Tm 27 qX11_law [.ref 0, .int nn] M Q := c_law (inv_fed hI) (fun _ => hq _ _ ⟨_, rfl⟩ (inv_rf hI (Or.inr (Or.inl rfl)))) (fun n0 cs M' _ _ _ _ hd h => hq _ _ ⟨_, rfl⟩ (inv_law hI hd h)) (fun n0 k a r M' _ _ _ _ _ _ h => hq _ _ ⟨_, rfl⟩ (inv_lawB hI h))
/-- the law's cells stay -/
theorem jm_law {M M' : fmM} (hI : scInv Tm invM M) (h17 : M'.1 0 17 = M.1 0 17) (h : ∀ k j, 91 ≤ k → k < 251 → M'.1 k j = M.1 k j) : ∃ cs : tC, (M'.1 0 17).toInt = (cs.length : Int) ∧ cs.length ≤ 160 ∧ (cs = [] ∨ dpR 0 cs = some 1) ∧ lwHas M'.1 91 cs := by
  obtain ⟨⟨cs, j1, j2, j3, j4⟩, -⟩ := hI.2 rfl
  refine ⟨cs, (by rw [h17]; exact j1), j2, j3, fun i c hi => ?_⟩
  have hl : i < cs.length := (List.getElem?_eq_some_iff.mp hi).1
  rw [h _ _ (by omega) (by omega), h _ _ (by omega) (by omega)]
  exact j4 i c hi
theorem st_k {M M1 : fmM} {tx : tX} {n k j : Nat} (h : stOk (fmI M 0 0 0) M1 tx n) (hk : k ≠ 0) : M1.1 k j = M.1 k j := by rw [h.2.2.2.2.2.2.1 k j hk, fmI_k _ _ hk]
theorem st_j {M M1 : fmM} {tx : tX} {n j : Nat} (h : stOk (fmI M 0 0 0) M1 tx n) (hj : 9 ≤ j) : M1.1 0 j = M.1 0 j := by rw [h.2.2.2.2.2.2.2.1 j (by omega) (by omega) (by omega) (by omega) (by omega) (by omega) (by omega), fmI_j _ _ (by omega)]
theorem st_0 {M M1 : fmM} {tx : tX} {n : Nat} (h : stOk (fmI M 0 0 0) M1 tx n) : M1.1 0 0 = 0 := by rw [h.2.2.2.2.2.2.2.1 0 (by decide) (by decide) (by decide) (by decide) (by decide) (by decide) (by decide), fmI_s]
theorem inv_page {M M1 M2 : fmM} {ls : tC} {tx : tX} {n : Nat} (hI : scInv Tm invM M) (hs : stOk (fmI M 0 0 0) M1 tx n) (h : pgEnd M1 M2 ls) : scInv Tm invM M2 := by
  obtain ⟨h1, h2, h3, h4, h5, h5b, h6, h7, h8⟩ := h
  have g : ∀ j, 9 ≤ j → j ≠ 31 → M2.1 0 j = M.1 0 j := fun j a b => (h7 j (by omega) (by omega) (by omega) (by omega) b).trans (st_j hs a)
  have gk : ∀ k j, k ≠ 0 → ¬ (411 ≤ k ∧ k < 423) → M2.1 k j = M.1 k j := fun k j a b => (h6 k j a b).trans (st_k hs a)
  refine hI.by (inv_c0 hI ((h7 0 (by decide) (by decide) (by decide) (by decide) (by decide)).trans (st_0 hs)) ((h7 1 (by decide) (by decide) (by decide) (by decide) (by decide)).trans hs.2.2.2.2.1) (a := -1) (by rw [h1]; decide) (by decide) (Or.inr (by omega)) (Or.inl (g 32 (by decide) (by decide))) (Or.inl (g 34 (by decide) (by decide)))) (fun k j hk hj => ?_) ⟨jm_law hI (g 17 (by decide) (by decide)) (fun k j a b => gk k j (by omega) (by omega)), jm_hours hI (gk 4 0 (by decide) (by omega)) (fun k j a b => gk k j (by omega) (by omega))⟩
  by_cases e : 417 ≤ k ∧ k < 423
  · exact Or.inr (Or.inl (inv_top (by omega) j))
  · by_cases e2 : 411 ≤ k ∧ k < 417
    · by_cases e3 : 411 + ls.length ≤ k
      · exact Or.inl ((h5b k j e3 e2.2).trans (st_k hs hk))
      · obtain ⟨i, rfl⟩ : ∃ i, k = 411 + i := ⟨k - 411, by omega⟩
        have hl : i < ls.length := by omega
        have hc := h4 i ls[i] (List.getElem?_eq_getElem hl)
        have hb := h5 ls[i] (List.getElem_mem hl)
        have hj2 : j < 2 := by
          rw [(rw_page.2.2.2 i (by omega)).2.2.2.2] at hj
          exact hj
        have hv : ∀ j, j < 2 → scAt (invM (411 + i)) j = if j = 0 then (0, 5) else (0, 1) := by
          rcases (show i = 0 ∨ i = 1 ∨ i = 2 ∨ i = 3 ∨ i = 4 ∨ i = 5 by omega) with rfl | rfl | rfl | rfl | rfl | rfl <;> decide
        refine Or.inr (Or.inr ?_)
        rw [hv j hj2]
        rcases (show j = 0 ∨ j = 1 by omega) with rfl | rfl
        · show 0 ≤ (M2.1 (411 + i) 0).toInt ∧ (M2.1 (411 + i) 0).toInt ≤ 5
          omega
        · show 0 ≤ (M2.1 (411 + i) 1).toInt ∧ (M2.1 (411 + i) 1).toInt ≤ 1
          omega
    · exact Or.inl (gk k j hk (by omega))
theorem inv_pageB {M M1 M2 : fmM} {tx : tX} {n a : Nat} (hI : scInv Tm invM M) (hs : stOk (fmI M 0 0 0) M1 tx n) (ha : a ≤ 600) (h : pgBad M1 M2 a) : scInv Tm invM M2 := by
  obtain ⟨h1, h2, h3, h6, h7, h8⟩ := h
  have g : ∀ j, 9 ≤ j → M2.1 0 j = M.1 0 j := fun j a => by
    by_cases b : j = 31
    · subst b
      exact h2.trans (st_j hs (by decide))
    · exact (h7 j (by omega) (by omega) (by omega) (by omega) b).trans (st_j hs a)
  have gk : ∀ k j, k ≠ 0 → ¬ (417 ≤ k ∧ k < 423) → M2.1 k j = M.1 k j := fun k j a b => by
    by_cases e : 411 ≤ k ∧ k < 417
    · exact (h3 k j e.1 e.2).trans (st_k hs a)
    · exact (h6 k j a (by omega)).trans (st_k hs a)
  refine hI.by (inv_c0 hI ((h7 0 (by decide) (by decide) (by decide) (by decide) (by decide)).trans (st_0 hs)) ((h7 1 (by decide) (by decide) (by decide) (by decide) (by decide)).trans hs.2.2.2.2.1) (a := a) h1 (by omega) (Or.inl (g 31 (by decide))) (Or.inl (g 32 (by decide))) (Or.inl (g 34 (by decide)))) (fun k j hk hj => ?_) ⟨jm_law hI (g 17 (by decide)) (fun k j a b => gk k j (by omega) (by omega)), jm_hours hI (gk 4 0 (by decide) (by omega)) (fun k j a b => gk k j (by omega) (by omega))⟩
  by_cases e : 417 ≤ k ∧ k < 423
  · exact Or.inr (Or.inl (inv_top (by omega) j))
  · exact Or.inl (gk k j hk e)
theorem t_page {M : fmM} {Q : fmR → fmM → Prop} {nn : Int32} (hI : scInv Tm invM M) (hq : ∀ (r : fmR) (M' : fmM), tI r → scInv Tm invM M' → Q r M') : pvGood Tm 3 qX11_page [.ref 0, .int nn] M Q := c_page (inv_fed hI) (fun _ => hq _ _ ⟨_, rfl⟩ (inv_rf hI (Or.inr (Or.inl rfl)))) (fun n0 M1 M2 ls r _ _ _ hs _ h _ => hq _ _ ⟨_, rfl⟩ (inv_page hI hs h)) (fun n0 k a M1 M2 r _ h60 _ hs _ hka h _ => hq _ _ ⟨_, rfl⟩ (inv_pageB hI hs (by omega) h))
theorem inv_r35 : ∀ i, i < 8 → ∀ j, j < 6 → scAt (invM (35 + i)) j = [(0, 110), (0, 64), (0, 99), (0, 9), (-1, 40), (-1, 7)].getD j scTop := by decide
theorem inv_r67 : ∀ i, i < 24 → ∀ j, j < 3 → scAt (invM (67 + i)) j = [(0, 7), (0, 5), (0, 60)].getD j scTop := by decide
theorem inv_7 : ∀ i, i < 8 → scAt (invM 7) (1 + i) = (-1000, 200) := by decide
theorem inv_drawer {M M1 M2 : fmM} {D : dD} {tx : tX} {n : Nat} (hI : scInv Tm invM M) (hs : stOk (fmI M 0 0 0) M1 tx n) (hD : dOk D) (h : dwEnd M1 M2 D) : scInv Tm invM M2 := by
  obtain ⟨h3, Mx, hF, ⟨a1, a2, a3, a4, a5⟩, ⟨b1, b2, b3⟩, ⟨c1, c2, c3, c4, c5⟩, d1, d2, d3, d4⟩ := h
  obtain ⟨D1, D2, D3, D4, D5, D6, D7, D8⟩ := hD
  have g0 : ∀ j, j < 2 → M2.1 0 j = M1.1 0 j := fun j hj => by
    rw [d2 j (by omega) (by omega) (by omega) (by omega) (by omega), fmI_j _ _ (by omega)]
    exact hF.2.1 j (by omega) (by omega) (by omega) (by omega)
  have gk : ∀ k j, k ≠ 0 → k ≠ 3 → k ≠ 4 → k ≠ 7 → ¬ (27 ≤ k ∧ k < 91) → M2.1 k j = M.1 k j := fun k j x1 x2 x3 x4 x5 => by
    rw [d1 k j x1 x3 x4 (by omega) (by omega), fmI_k _ _ x1, hF.1 k j x1 x2 (by omega) (by omega)]
    exact st_k hs x1
  have gr : ∀ k j, (35 + D.1 ≤ k ∧ k < 43) ∨ (67 + D.2.2.1 ≤ k ∧ k < 91) → M2.1 k j = M.1 k j := fun k j x => by
    rw [d3 k j x, fmI_k _ _ (by omega), hF.1 k j (by omega) (by omega) (by omega) (by omega)]
    exact st_k hs (by omega)
  refine hI.by (inv_c0 hI ((g0 0 (by decide)).trans (st_0 hs)) ((g0 1 (by decide)).trans hs.2.2.2.2.1) (a := -1) (by rw [h3]; decide) (by decide) (Or.inr (by rw [c2]; decide)) (Or.inr c3) (Or.inr c5)) (fun k j hk hj => ?_) ⟨⟨[], (by rw [c1]; decide), by decide, Or.inl rfl, fun i c hi => by cases hi⟩, fun i hi hl => ?_⟩
  · by_cases e3 : k = 3 ∨ (27 ≤ k ∧ k < 35) ∨ (43 ≤ k ∧ k < 67)
    · exact Or.inr (Or.inl (inv_top (by omega) j))
    · by_cases e4 : k = 4
      · subst e4
        have hj : j < 6 := hj
        refine Or.inr (Or.inr ?_)
        rcases (show j = 0 ∨ j = 1 ∨ j = 2 ∨ j = 3 ∨ j = 4 ∨ j = 5 by omega) with rfl | rfl | rfl | rfl | rfl | rfl
        · rw [a1]; exact ⟨by show (0 : Int) ≤ _; omega, by show _ ≤ (8 : Int); omega⟩
        · rw [a2]; exact ⟨by show (0 : Int) ≤ _; omega, by show _ ≤ (24 : Int); omega⟩
        · rw [a3 2 (by decide) (by decide)]; exact D5
        · rw [a3 3 (by decide) (by decide)]; exact D6
        · rw [a3 4 (by decide) (by decide)]; exact D7
        · rw [a3 5 (by decide) (by decide)]; exact D8
      · by_cases e7 : k = 7
        · subst e7
          have hj : j < 14 := hj
          by_cases e8 : 1 ≤ j ∧ j < 9
          · obtain ⟨i, rfl⟩ : ∃ i, j = 1 + i := ⟨j - 1, by omega⟩
            refine Or.inr (Or.inr ?_)
            rw [inv_7 i (by omega), b1 i (by omega)]
            split
            · rename_i hx
              have := (D3 i hx.1).2.2.2.2.1
              exact ⟨by show (-1000 : Int) ≤ _; omega, by show _ ≤ (200 : Int); omega⟩
            · decide
          · refine Or.inr (Or.inr ?_)
            by_cases e9 : j = 9
            · subst e9
              rw [b2]
              exact ⟨by show (0 : Int) ≤ _; omega, by show _ ≤ (12 : Int); omega⟩
            · rw [b3 j (by omega)]
              rcases (show j = 0 ∨ j = 10 ∨ j = 11 ∨ j = 12 ∨ j = 13 by omega) with rfl | rfl | rfl | rfl | rfl <;> decide
        · by_cases e35 : 35 ≤ k ∧ k < 43
          · by_cases el : 35 + D.1 ≤ k
            · exact Or.inl (gr k j (Or.inl ⟨el, e35.2⟩))
            · obtain ⟨i, rfl⟩ : ∃ i, k = 35 + i := ⟨k - 35, by omega⟩
              have hj6 : j < 6 := by
                rw [(rw_life.2.2.2 i (by omega)).2.2.2.2] at hj
                exact hj
              have hd := D3 i (by omega)
              refine Or.inr (Or.inr ?_)
              rw [inv_r35 i (by omega) j hj6, a4 i (by omega) j hj6]
              rcases (show j = 0 ∨ j = 1 ∨ j = 2 ∨ j = 3 ∨ j = 4 ∨ j = 5 by omega) with rfl | rfl | rfl | rfl | rfl | rfl
              · exact hd.1
              · exact hd.2.1
              · exact ⟨by show (0 : Int) ≤ _; omega, hd.2.2.1.2⟩
              · exact ⟨by show (0 : Int) ≤ _; omega, hd.2.2.2.1.2⟩
              · exact hd.2.2.2.2.1
              · exact ⟨hd.2.2.2.2.2.1, by show _ ≤ (7 : Int); omega⟩
          · by_cases e67 : 67 ≤ k ∧ k < 91
            · by_cases el : 67 + D.2.2.1 ≤ k
              · exact Or.inl (gr k j (Or.inr ⟨el, e67.2⟩))
              · obtain ⟨i, rfl⟩ : ∃ i, k = 67 + i := ⟨k - 67, by omega⟩
                have hj3 : j < 3 := by
                  rw [(rw_fact.2.2.2 i (by omega)).2.2.2.2] at hj
                  exact hj
                have hd := D4 i (by omega)
                refine Or.inr (Or.inr ?_)
                rw [inv_r67 i (by omega) j hj3, a5 i (by omega) j hj3]
                rcases (show j = 0 ∨ j = 1 ∨ j = 2 by omega) with rfl | rfl | rfl
                · exact ⟨hd.1.1, by show _ ≤ (7 : Int); omega⟩
                · exact hd.2.1
                · exact ⟨by show (0 : Int) ≤ _; omega, hd.2.2.2⟩
            · exact Or.inl (gk k j hk (by omega) e4 e7 (by omega))
  · rw [a1] at hl
    rw [a4 i (by omega) 3 (by decide)]
    exact (D3 i (by omega)).2.2.2.1.1
theorem inv_drawerB {M M1 M2 : fmM} {tx : tX} {n a : Nat} (hI : scInv Tm invM M) (hs : stOk (fmI M 0 0 0) M1 tx n) (ha : a ≤ 600) (h : dwBad M1 M2 a) : scInv Tm invM M2 := by
  obtain ⟨h1, Mx, hF, rfl⟩ := h
  have g : ∀ j, j ≠ 3 → j ≠ 4 → j ≠ 5 → j ≠ 6 → j ≠ 7 → (fmI Mx 0 3 (Mx.1 0 6)).1 0 j = M1.1 0 j := fun j x1 x2 x3 x4 x5 => by
    rw [fmI_j _ _ x1]
    exact hF.2.1 j x2 x3 x4 x5
  have gk : ∀ k j, k ≠ 0 → k ≠ 3 → ¬ (27 ≤ k ∧ k < 35) → ¬ (43 ≤ k ∧ k < 67) → (fmI Mx 0 3 (Mx.1 0 6)).1 k j = M.1 k j := fun k j x1 x2 x3 x4 => by
    rw [fmI_k _ _ x1, hF.1 k j x1 x2 x3 x4]
    exact st_k hs x1
  have gj : ∀ j, 9 ≤ j → (fmI Mx 0 3 (Mx.1 0 6)).1 0 j = M.1 0 j := fun j x => (g j (by omega) (by omega) (by omega) (by omega) (by omega)).trans (st_j hs x)
  refine hI.by (inv_c0 hI ((g 0 (by decide) (by decide) (by decide) (by decide) (by decide)).trans (st_0 hs)) ((g 1 (by decide) (by decide) (by decide) (by decide) (by decide)).trans hs.2.2.2.2.1) (a := a) h1 (by omega) (Or.inl (gj 31 (by decide))) (Or.inl (gj 32 (by decide))) (Or.inl (gj 34 (by decide)))) (fun k j hk hj => ?_) ⟨jm_law hI (gj 17 (by decide)) (fun k j a b => gk k j (by omega) (by omega) (by omega) (by omega)), jm_hours hI (gk 4 0 (by decide) (by decide) (by omega) (by omega)) (fun k j a b => gk k j (by omega) (by omega) (by omega) (by omega))⟩
  by_cases e : k = 3 ∨ (27 ≤ k ∧ k < 35) ∨ (43 ≤ k ∧ k < 67)
  · exact Or.inr (Or.inl (inv_top (by omega) j))
  · exact Or.inl (gk k j hk (by omega) (by omega) (by omega))
theorem t_drawer {M : fmM} {Q : fmR → fmM → Prop} {nn : Int32} (hI : scInv Tm invM M) (hq : ∀ (r : fmR) (M' : fmM), tI r → scInv Tm invM M' → Q r M') : pvGood Tm 6 qX11_drawer [.ref 0, .int nn] M Q := by
  have h6 : (M.1 0 1).toInt ≤ 600 := (hI.1 0 1 (by decide)).2
  exact c_drawer (inv_fed hI) h6 (fun _ => hq _ _ ⟨_, rfl⟩ (inv_rf hI (Or.inr (Or.inl rfl)))) (fun n0 M1 M2 D r _ _ hs _ hD h _ => hq _ _ ⟨_, rfl⟩ (inv_drawer hI hs hD h)) (fun n0 k a M1 M2 r _ hn hs _ hka h _ => hq _ _ ⟨_, rfl⟩ (inv_drawerB hI hs (by omega) h))
end
-- P 12r
section
-- WORKS AS TEXTS
/-- steps, one behind the other: kind (0 write, 1 renew, 2 die, 3 week, 4 again), number, where the next one stands -/
abbrev tS : Type := List (Nat × Nat × Nat)
def stK (w : List Int) : Option Nat := if w = [119, 114, 105, 116, 101] then some 0 else if w = [114, 101, 110, 101, 119] then some 1 else if w = [100, 105, 101] then some 2 else if w = [119, 101, 101, 107] then some 3 else if w = [97, 103, 97, 105, 110] then some 4 else none
def spSi (tx : tX) (l k b q : Nat) : tR tS := spBind (spNum tx 0 ((l : Int) - 1) q) fun v q => spBind (spSign tx 59 q) fun _ q => .inr ([(k, v, b + 1)], q)
def spWk (tx : tX) (b q : Nat) : tR tS := spBind (spSign tx 59 q) fun _ q => .inr ([(3, 0, b + 1)], q)
def spAg (tx : tX) (rc : Nat → tR tS) (b q : Nat) : tR tS := spBind (spNum tx 0 20 q) fun v q => spBind (spSign tx 91 q) fun _ q => spBind (rc (sk tx q)) fun ss q => spBind (spSign tx 93 q) fun _ q => spBind (spSign tx 59 q) fun _ q => .inr ((4, v, b + 1 + ss.length) :: ss, q)
def spOneS (tx : tX) (l : Nat) (rc : Nat → tR tS) (o b p : Nat) : tR tS := match stK (wd tx (sk tx p)) with
  | none => .inl (1, sk tx p)
  | some k => if k = 4 then (if o = 6 then .inl (3, sk tx p) else spAg tx rc b (sp tW tx (sk tx p))) else if k = 3 then spWk tx b (sp tW tx (sk tx p)) else spSi tx l k b (sp tW tx (sk tx p))
/-- mode 0: one step; mode 1: steps up to a closing bracket -/
def spSt (tx : tX) (l : Nat) : Nat → Nat → Nat → Nat → Nat → tR tS
  | 0, _, _, _, _ => .inl (9, 0)
  | f + 1, 0, o, b, p => spOneS tx l (fun q => spSt tx l f 1 (o + 1) (b + 1) q) o b p
  | f + 1, _ + 1, o, b, p => if tx p = 93 then .inr ([], p) else spBind (spSt tx l f 0 o b p) fun ss q => spBind (spSt tx l f 1 o (b + ss.length) (sk tx q)) fun ts q => .inr (ss ++ ts, q)
def wkL (tx : tX) (n l : Nat) : Nat → Nat → Nat → (Nat × Nat) ⊕ tS
  | 0, _, _ => .inl (9, 0)
  | f + 1, b, p => if n ≤ p then .inr [] else match spSt tx l 400 0 0 b p with
    | .inl e => .inl e
    | .inr (ss, q) => match wkL tx n l f (b + ss.length) (sk tx q) with
      | .inl e => .inl e
      | .inr ts => .inr (ss ++ ts)
def spWork (tx : tX) (n l : Nat) : (Nat × Nat) ⊕ tS := wkL tx n l 700 0 (sk tx 0)
theorem stK_ne {w : List Int} {k : Nat} (h : stK w = some k) : 0 < w.length ∧ k ≤ 4 := by
  unfold stK at h
  repeat' split at h
  all_goals first | (rename_i e; subst e; injection h with h; subst h; exact ⟨by decide, by decide⟩) | (rename_i e _; cases h) | cases h
/-- what is read is more than twice as long as what it says -/
theorem spSt_len {tx : tX} {n l : Nat} (ht : tOk tx n) : ∀ (f md o b p : Nat) (ss : tS) (q : Nat), p ≤ n → spSt tx l f md o b p = .inr (ss, q) → p + 2 * ss.length ≤ q ∧ q ≤ n ∧ (md = 0 → 1 ≤ ss.length) := by
  intro f
  induction f with
  | zero => intro md o b p ss q _ h; cases md <;> cases h
  | succ f ih =>
    intro md o b p ss q hp h
    cases md with
    | zero =>
      have s1 : p ≤ sk tx p := sp_ge p
      have s2 : sk tx p ≤ n := sp_le tB_1 ht hp
      have w2 := sp_le (p := sk tx p) tW_1 ht s2
      have h : spOneS tx l (fun q => spSt tx l f 1 (o + 1) (b + 1) q) o b p = .inr (ss, q) := h
      unfold spOneS at h
      split at h
      · cases h
      · rename_i k hk
        have hw := (stK_ne hk).1
        rw [wd_len] at hw
        split at h
        · split at h
          · cases h
          · obtain ⟨v, q1, e1, h⟩ := spBind_ok h
            obtain ⟨u2, q2, e2, h⟩ := spBind_ok h
            obtain ⟨s3, q3, e3, h⟩ := spBind_ok h
            obtain ⟨u4, q4, e4, h⟩ := spBind_ok h
            obtain ⟨u5, q5, e5, h⟩ := spBind_ok h
            cases h
            have a1 := spNum_ok ht w2 e1
            have a2 := spSign_ok ht a1.2.1 (by omega) e2
            have g1 : q2 ≤ sk tx q2 := sp_ge q2
            have g2 : sk tx q2 ≤ n := sp_le tB_1 ht a2.2
            have a3 := ih _ _ _ _ _ _ g2 e3
            have a4 := spSign_ok ht a3.2.1 (by omega) e4
            have a5 := spSign_ok ht a4.2 (by omega) e5
            refine ⟨?_, a5.2, fun _ => ?_⟩
            · rw [List.length_cons]; omega
            · rw [List.length_cons]; omega
        · split at h
          · obtain ⟨u5, q5, e5, h⟩ := spBind_ok h
            cases h
            have a5 := spSign_ok ht w2 (by omega) e5
            exact ⟨by show p + 2 * 1 ≤ q; omega, a5.2, fun _ => Nat.le_refl 1⟩
          · obtain ⟨v, q1, e1, h⟩ := spBind_ok h
            obtain ⟨u5, q5, e5, h⟩ := spBind_ok h
            cases h
            have a1 := spNum_ok ht w2 e1
            have a5 := spSign_ok ht a1.2.1 (by omega) e5
            exact ⟨by show p + 2 * 1 ≤ q; omega, a5.2, fun _ => Nat.le_refl 1⟩
    | succ md =>
      have h : (if tx p = 93 then .inr ([], p) else spBind (spSt tx l f 0 o b p) fun ss q => spBind (spSt tx l f 1 o (b + ss.length) (sk tx q)) fun ts q => .inr (ss ++ ts, q)) = (.inr (ss, q) : tR tS) := h
      split at h
      · cases h
        exact ⟨Nat.le_refl _, hp, fun h => absurd h (by omega)⟩
      · obtain ⟨s1, q1, e1, h⟩ := spBind_ok h
        obtain ⟨s2, q2, e2, h⟩ := spBind_ok h
        cases h
        have a1 := ih _ _ _ _ _ _ hp e1
        have g1 : q1 ≤ sk tx q1 := sp_ge q1
        have g2 : sk tx q1 ≤ n := sp_le tB_1 ht a1.2.1
        have a2 := ih _ _ _ _ _ _ g2 e2
        refine ⟨?_, a2.2.1, fun h => absurd h (by omega)⟩
        rw [List.length_append]
        omega
theorem spNum_9 {tx : tX} {n p : Nat} {lo hi : Int} (ht : tOk tx n) (hp : p ≤ n) : ∀ a, ¬ spNum tx lo hi p = .inl (9, a) := fun a h => by
  have := spNum_bad ht hp h
  omega
theorem spSign_9 {tx : tX} {n p : Nat} {c : Int} (ht : tOk tx n) (hp : p ≤ n) : ∀ a, ¬ spSign tx c p = .inl (9, a) := fun a h => by
  have := spSign_bad ht hp h
  omega
theorem spSt_bad {tx : tX} {n l : Nat} (ht : tOk tx n) : ∀ (f md o b p : Nat) (e : Nat × Nat), p ≤ n → 2 * (n - p) + 1 + min md 1 ≤ f → spSt tx l f md o b p = .inl e → (1 ≤ e.1 ∧ e.1 ≤ 3) ∧ e.2 ≤ n := by
  intro f
  induction f with
  | zero => intro md o b p e _ h; omega
  | succ f ih =>
    intro md o b p e hp hf h
    cases md with
    | zero =>
      have s1 : p ≤ sk tx p := sp_ge p
      have s2 : sk tx p ≤ n := sp_le tB_1 ht hp
      have w2 := sp_le (p := sk tx p) tW_1 ht s2
      have h : spOneS tx l (fun q => spSt tx l f 1 (o + 1) (b + 1) q) o b p = .inl e := h
      unfold spOneS at h
      split at h
      · cases h
        exact ⟨⟨Nat.le_refl 1, (show 1 ≤ 3 by decide)⟩, s2⟩
      · rename_i k hk
        have hw := (stK_ne hk).1
        rw [wd_len] at hw
        split at h
        · split at h
          · cases h
            exact ⟨⟨(show 1 ≤ 3 by decide), Nat.le_refl 3⟩, s2⟩
          · refine spBind_b h (fun e h => spNum_b ht w2 h) (fun v q1 e1 h => ?_)
            have a1 := spNum_ok ht w2 e1
            refine spBind_b h (fun e h => spSign_b ht a1.2.1 h) (fun v q2 e2 h => ?_)
            have a2 := spSign_ok ht a1.2.1 (by omega) e2
            have g1 : q2 ≤ sk tx q2 := sp_ge q2
            have g2 : sk tx q2 ≤ n := sp_le tB_1 ht a2.2
            refine spBind_b h (fun e h => ih _ _ _ _ e g2 (by omega) h) (fun v q3 e3 h => ?_)
            have a3 := spSt_len ht _ _ _ _ _ _ _ g2 e3
            refine spBind_b h (fun e h => spSign_b ht a3.2.1 h) (fun v q4 e4 h => ?_)
            have a4 := spSign_ok ht a3.2.1 (by omega) e4
            exact spBind_b h (fun e h => spSign_b ht a4.2 h) (fun v q5 e5 h => (by cases h))
        · split at h
          · exact spBind_b h (fun e h => spSign_b ht w2 h) (fun v q5 e5 h => (by cases h))
          · refine spBind_b h (fun e h => spNum_b ht w2 h) (fun v q1 e1 h => ?_)
            have a1 := spNum_ok ht w2 e1
            exact spBind_b h (fun e h => spSign_b ht a1.2.1 h) (fun v q5 e5 h => (by cases h))
    | succ md =>
      have h : (if tx p = 93 then .inr ([], p) else spBind (spSt tx l f 0 o b p) fun ss q => spBind (spSt tx l f 1 o (b + ss.length) (sk tx q)) fun ts q => .inr (ss ++ ts, q)) = (.inl e : tR tS) := h
      split at h
      · cases h
      · refine spBind_b h (fun e h => ih _ _ _ _ e hp (by omega) h) (fun s1 q1 e1 h => ?_)
        have a1 := spSt_len ht _ _ _ _ _ _ _ hp e1
        have a0 := a1.2.2 rfl
        have g1 : q1 ≤ sk tx q1 := sp_ge q1
        have g2 : sk tx q1 ≤ n := sp_le tB_1 ht a1.2.1
        exact spBind_b h (fun e h => ih _ _ _ _ e g2 (by omega) h) (fun s2 q2 e2 h => (by cases h))
theorem wkL_0 {tx : tX} {n l f b p : Nat} (h : n ≤ p) : wkL tx n l (f + 1) b p = .inr [] := by simp only [wkL]; rw [if_pos h]
theorem wkL_1 {tx : tX} {n l f b p : Nat} {e : Nat × Nat} (h : ¬ n ≤ p) (h1 : spSt tx l 400 0 0 b p = .inl e) : wkL tx n l (f + 1) b p = .inl e := by simp only [wkL]; rw [if_neg h, h1]
theorem wkL_2 {tx : tX} {n l f b p q : Nat} {ss : tS} {e : Nat × Nat} (h : ¬ n ≤ p) (h1 : spSt tx l 400 0 0 b p = .inr (ss, q)) (h2 : wkL tx n l f (b + ss.length) (sk tx q) = .inl e) : wkL tx n l (f + 1) b p = .inl e := by simp only [wkL]; rw [if_neg h, h1]; simp only; rw [h2]
theorem wkL_3 {tx : tX} {n l f b p q : Nat} {ss ts : tS} (h : ¬ n ≤ p) (h1 : spSt tx l 400 0 0 b p = .inr (ss, q)) (h2 : wkL tx n l f (b + ss.length) (sk tx q) = .inr ts) : wkL tx n l (f + 1) b p = .inr (ss ++ ts) := by simp only [wkL]; rw [if_neg h, h1]; simp only; rw [h2]
theorem wkL_bad {tx : tX} {n l : Nat} (ht : tOk tx n) (hn : n ≤ 150) : ∀ (f b p : Nat) (e : Nat × Nat), p ≤ n → n - p < f → wkL tx n l f b p = .inl e → (1 ≤ e.1 ∧ e.1 ≤ 3) ∧ e.2 ≤ n
  | 0, _, _, _, _, h, _ => by omega
  | f + 1, b, p, e, hp, hf, h => by
    by_cases hn2 : n ≤ p
    · rw [wkL_0 hn2] at h; cases h
    · cases hc : spSt tx l 400 0 0 b p with
      | inl e' =>
        rw [wkL_1 hn2 hc] at h
        cases h
        exact spSt_bad ht _ _ _ _ _ _ hp (by omega) hc
      | inr r =>
        obtain ⟨ss, q⟩ := r
        have a1 := spSt_len ht _ _ _ _ _ _ _ hp hc
        have a0 := a1.2.2 rfl
        have s1 := sp_ge (P := tB) (tx := tx) q
        have s2 := sp_le tB_1 ht a1.2.1
        cases h2 : wkL tx n l f (b + ss.length) (sk tx q) with
        | inl e' =>
          rw [wkL_2 hn2 hc h2] at h
          cases h
          exact wkL_bad ht hn f _ _ _ s2 (by omega) h2
        | inr ts =>
          rw [wkL_3 hn2 hc h2] at h
          cases h
/-- a step that can be, of l lives, at its place, of all n -/
def sOk (l b n : Nat) (s : Nat × Nat × Nat) : Prop := s.1 ≤ 4 ∧ (s.1 < 3 → s.2.1 < l) ∧ (s.1 = 4 → s.2.1 ≤ 20) ∧ b < s.2.2 ∧ s.2.2 ≤ n
def ssOk (l b : Nat) (ss : tS) : Prop := ∀ i s, ss[i]? = some s → sOk l (b + i) (b + ss.length) s
theorem sOk.up {l b n n' : Nat} {s : Nat × Nat × Nat} (h : sOk l b n s) (hn : n ≤ n') : sOk l b n' s := ⟨h.1, h.2.1, h.2.2.1, h.2.2.2.1, by have := h.2.2.2.2; omega⟩
theorem ssOk.nil {l b : Nat} : ssOk l b [] := fun i s h => by cases h
theorem ssOk.one {l b k v : Nat} (hk : k ≤ 4) (h1 : k < 3 → v < l) (h2 : k = 4 → v ≤ 20) : ssOk l b [(k, v, b + 1)] := fun i s h => by
  cases i with
  | zero =>
    cases h
    exact ⟨hk, h1, h2, Nat.lt_succ_self _, Nat.le_refl _⟩
  | succ i => cases h
theorem ssOk.cons {l b v : Nat} {ss : tS} (h : ssOk l (b + 1) ss) (hv : v ≤ 20) : ssOk l b ((4, v, b + 1 + ss.length) :: ss) := fun i s hi => by
  rw [List.length_cons]
  cases i with
  | zero =>
    cases hi
    exact ⟨Nat.le_refl 4, fun h => absurd h (by omega), fun _ => hv, by show b + 0 < b + 1 + ss.length; omega, by show b + 1 + ss.length ≤ b + (ss.length + 1); omega⟩
  | succ i =>
    have h9 := h i s hi
    rw [show b + (i + 1) = b + 1 + i by omega]
    exact h9.up (by omega)
theorem ssOk.app {l b : Nat} {ss ts : tS} (h1 : ssOk l b ss) (h2 : ssOk l (b + ss.length) ts) : ssOk l b (ss ++ ts) := fun i s hi => by
  rw [List.length_append]
  by_cases e : i < ss.length
  · rw [List.getElem?_append_left e] at hi
    exact (h1 i s hi).up (by omega)
  · rw [List.getElem?_append_right (by omega)] at hi
    have h9 := h2 (i - ss.length) s hi
    rw [show b + ss.length + (i - ss.length) = b + i by omega] at h9
    exact h9.up (by omega)
theorem spSt_ok {tx : tX} {n l : Nat} (ht : tOk tx n) : ∀ (f md o b p : Nat) (ss : tS) (q : Nat), p ≤ n → spSt tx l f md o b p = .inr (ss, q) → ssOk l b ss := by
  intro f
  induction f with
  | zero => intro md o b p ss q _ h; cases md <;> cases h
  | succ f ih =>
    intro md o b p ss q hp h
    cases md with
    | zero =>
      have s2 : sk tx p ≤ n := sp_le tB_1 ht hp
      have w2 := sp_le (p := sk tx p) tW_1 ht s2
      have h : spOneS tx l (fun q => spSt tx l f 1 (o + 1) (b + 1) q) o b p = .inr (ss, q) := h
      unfold spOneS at h
      split at h
      · cases h
      · rename_i k hk
        have hk4 := (stK_ne hk).2
        split at h
        · split at h
          · cases h
          · obtain ⟨v, q1, e1, h⟩ := spBind_ok h
            obtain ⟨u2, q2, e2, h⟩ := spBind_ok h
            obtain ⟨s3, q3, e3, h⟩ := spBind_ok h
            obtain ⟨u4, q4, e4, h⟩ := spBind_ok h
            obtain ⟨u5, q5, e5, h⟩ := spBind_ok h
            cases h
            have a1 := spNum_ok ht w2 e1
            have a2 := spSign_ok ht a1.2.1 (by omega) e2
            have g2 : sk tx q2 ≤ n := sp_le tB_1 ht a2.2
            exact (ih _ _ _ _ _ _ g2 e3).cons (by omega)
        · split at h
          · obtain ⟨u5, q5, e5, h⟩ := spBind_ok h
            cases h
            exact ssOk.one (by decide) (fun h => absurd h (by decide)) (fun h => absurd h (by decide))
          · obtain ⟨v, q1, e1, h⟩ := spBind_ok h
            obtain ⟨u5, q5, e5, h⟩ := spBind_ok h
            cases h
            have a1 := spNum_ok ht w2 e1
            exact ssOk.one hk4 (fun _ => by omega) (fun h => absurd h (by assumption))
    | succ md =>
      have h : (if tx p = 93 then .inr ([], p) else spBind (spSt tx l f 0 o b p) fun ss q => spBind (spSt tx l f 1 o (b + ss.length) (sk tx q)) fun ts q => .inr (ss ++ ts, q)) = (.inr (ss, q) : tR tS) := h
      split at h
      · cases h
        exact ssOk.nil
      · obtain ⟨s1, q1, e1, h⟩ := spBind_ok h
        obtain ⟨s2, q2, e2, h⟩ := spBind_ok h
        cases h
        have a1 := spSt_len ht _ _ _ _ _ _ _ hp e1
        have g2 : sk tx q1 ≤ n := sp_le tB_1 ht a1.2.1
        exact (ih _ _ _ _ _ _ hp e1).app (ih _ _ _ _ _ _ g2 e2)
theorem wkL_ok {tx : tX} {n l : Nat} (ht : tOk tx n) : ∀ (f b p : Nat) (ss : tS), p ≤ n → wkL tx n l f b p = .inr ss → ssOk l b ss ∧ p + 2 * ss.length ≤ n
  | 0, _, _, _, _, h => by cases h
  | f + 1, b, p, ss, hp, h => by
    by_cases hn2 : n ≤ p
    · rw [wkL_0 hn2] at h
      cases h
      exact ⟨ssOk.nil, hp⟩
    · cases hc : spSt tx l 400 0 0 b p with
      | inl e' => rw [wkL_1 hn2 hc] at h; cases h
      | inr r =>
        obtain ⟨s1, q⟩ := r
        have a1 := spSt_len ht _ _ _ _ _ _ _ hp hc
        have g1 := sp_ge (P := tB) (tx := tx) q
        have g2 := sp_le tB_1 ht a1.2.1
        cases h2 : wkL tx n l f (b + s1.length) (sk tx q) with
        | inl e' => rw [wkL_2 hn2 hc h2] at h; cases h
        | inr ts =>
          rw [wkL_3 hn2 hc h2] at h
          cases h
          have a2 := wkL_ok ht f _ _ _ g2 h2
          refine ⟨(spSt_ok ht _ _ _ _ _ _ _ hp hc).app a2.1, ?_⟩
          rw [List.length_append]
          have a3 := a2.2
          have a4 : q ≤ sk tx q := g1
          omega
end
-- P 12t
section
-- THE REFERENCE READS WORKS
def stRep (M : fmM) (b : Nat) (ss : tS) : Prop := ∀ i s, ss[i]? = some s → (M.1 (423 + b + i) 0).toInt = s.1 ∧ (s.1 ≠ 3 → (M.1 (423 + b + i) 1).toInt = s.2.1) ∧ (M.1 (423 + b + i) 2).toInt = s.2.2
def srFr (b : Nat) (M M' : fmM) : Prop := (∀ k j, k ≠ 0 → ¬ (423 + b ≤ k ∧ k < 503) → M'.1 k j = M.1 k j) ∧ (∀ j, j ≠ 4 → j ≠ 5 → j ≠ 6 → j ≠ 8 → j ≠ 26 → M'.1 0 j = M.1 0 j) ∧ M'.2 = M.2
def srOk (M M' : fmM) (tx : tX) (n q b : Nat) (ss : tS) : Prop := rS M' tx n q ∧ M'.1 0 5 = 0 ∧ M'.1 0 8 = M.1 0 8 ∧ (M'.1 0 26).toInt = ((b + ss.length : Nat) : Int) ∧ stRep M' b ss ∧ srFr b M M'
def srBad (M M' : fmM) (tx : tX) (n k a b : Nat) : Prop := (∃ q, rS M' tx n q) ∧ (M'.1 0 5).toInt = k ∧ (M'.1 0 6).toInt = a ∧ k ≠ 0 ∧ srFr b M M'
def srPre (M : fmM) (tx : tX) (n p o b l : Nat) : Prop := rS M tx n p ∧ M.1 0 5 = 0 ∧ (M.1 0 8).toInt = o ∧ o ≤ 6 ∧ (M.1 0 26).toInt = b ∧ 2 * b ≤ p ∧ n ≤ 150 ∧ (M.1 4 0).toInt = l ∧ l ≤ 8
theorem srFr.refl (b : Nat) (M : fmM) : srFr b M M := ⟨fun _ _ _ _ => rfl, fun _ _ _ _ _ _ => rfl, rfl⟩
theorem srFr.rd {b : Nat} {M M1 M2 : fmM} (h : srFr b M M1) (h' : rdFr M1 M2) : srFr b M M2 := ⟨fun k j a c => (h'.1 k j a).trans (h.1 k j a c), fun j a b c d e => (h'.2.1 j a b c).trans (h.2.1 j a b c d e), h'.2.2.trans h.2.2⟩
theorem srFr.trans {b b' : Nat} {M M1 M2 : fmM} (h : srFr b M M1) (h' : srFr b' M1 M2) (hb : b ≤ b') : srFr b M M2 := ⟨fun k j a c => (h'.1 k j a (by omega)).trans (h.1 k j a c), fun j a b c d e => (h'.2.1 j a b c d e).trans (h.2.1 j a b c d e), h'.2.2.trans h.2.2⟩
theorem srFr.row {b k j : Nat} {M M1 : fmM} {x : Int32} (h : srFr b M M1) (hk : 423 + b ≤ k ∧ k < 503) : srFr b M (fmI M1 k j x) := by
  refine ⟨fun k' j' a c => ?_, fun j' a b c d e => ?_, h.2.2⟩
  · rw [fmI_k _ _ (by omega)]
    exact h.1 k' j' a c
  · rw [fmI_k _ _ (by omega)]
    exact h.2.1 j' a b c d e
theorem srFr.c0 {b j : Nat} {M M1 : fmM} {x : Int32} (h : srFr b M M1) (hj : j = 4 ∨ j = 5 ∨ j = 6 ∨ j = 8 ∨ j = 26) : srFr b M (fmI M1 0 j x) := by
  refine ⟨fun k' j' a c => ?_, fun j' a b c d e => ?_, h.2.2⟩
  · rw [fmI_k _ _ a]
    exact h.1 k' j' a c
  · rw [fmI_j _ _ (by omega)]
    exact h.2.1 j' a b c d e
theorem srBad.nz {M M' : fmM} {tx : tX} {n k a b : Nat} (h : srBad M M' tx n k a b) : ¬ M'.1 0 5 = 0 := by
  intro e
  have h1 := h.2.1
  rw [e] at h1
  have e0 : (0 : Int32).toInt = 0 := by decide
  have := h.2.2.2.1
  omega
theorem srBad.row {M M1 : fmM} {tx : tX} {n kf a b k j : Nat} {x : Int32} (hk : 423 + b ≤ k ∧ k < 503) (h : srBad M M1 tx n kf a b) : srBad M (fmI M1 k j x) tx n kf a b := by
  obtain ⟨⟨q, h1⟩, h2, h3, h4, h5⟩ := h
  have e : ∀ j', (fmI M1 k j x).1 0 j' = M1.1 0 j' := fun j' => by rw [fmI_k _ _ (by omega)]
  refine ⟨⟨q, h1.of (e 2) (e 4) ?_⟩, by rw [e]; exact h2, by rw [e]; exact h3, h4, h5.row hk⟩
  rw [fmI_k _ _ (by omega)]
theorem srBad.c8 {M M1 : fmM} {tx : tX} {n kf a b : Nat} {x : Int32} (h : srBad M M1 tx n kf a b) : srBad M (fmI M1 0 8 x) tx n kf a b := by
  obtain ⟨⟨q, h1⟩, h2, h3, h4, h5⟩ := h
  exact ⟨⟨q, h1.of rfl rfl rfl⟩, h2, h3, h4, h5.c0 (by omega)⟩
theorem srBad.of {b : Nat} {M M1 M2 : fmM} {tx : tX} {n k a : Nat} (h : srFr b M M1) (hB : rdBad M1 M2 tx n k a) : srBad M M2 tx n k a b := ⟨hB.1, hB.2.1, hB.2.2.1, hB.2.2.2.1, h.rd hB.2.2.2.2⟩
theorem srPre.b {M : fmM} {tx : tX} {n p o b l : Nat} (h : srPre M tx n p o b l) : b < 80 := by
  have h1 := h.2.2.2.2.2.1
  have h2 := h.2.2.2.2.2.2.1
  have h3 := h.1.2.2.1
  omega
def rsM (M : fmM) (x k : Int32) (b : Nat) : fmM := fmI (fmI (fmI M 0 4 x) 0 26 ((fmI M 0 4 x).1 0 26 + 1)) (423 + b) 0 k
theorem rsM_fr {M : fmM} {x k : Int32} {b : Nat} (hb : b < 80) : srFr b M (rsM M x k b) := (((srFr.refl b M).c0 (Or.inl rfl)).c0 (Or.inr (Or.inr (Or.inr (Or.inr rfl))))).row ⟨Nat.le_refl _, by omega⟩
theorem rsM_S {M : fmM} {x k : Int32} {tx : tX} {n p q o b l : Nat} (h : srPre M tx n p o b l) (hx : x.toInt = q) (hq : q ≤ n) : rS (rsM M x k b) tx n q ∧ (rsM M x k b).1 0 5 = 0 := by
  have h1 : rS (fmI (fmI M 0 4 x) 0 26 ((fmI M 0 4 x).1 0 26 + 1)) tx n q := (h.1.set hx hq).of rfl rfl rfl
  refine ⟨h1.row ⟨by omega, by omega⟩, ?_⟩
  unfold rsM
  rw [fmI_k _ _ (by omega), fmI_j _ _ (by decide), fmI_j _ _ (by decide)]
  exact h.2.1
/-- one step is read -/
theorem rs_one {M M1 M2 : fmM} {x kk w : Int32} {tx : tX} {n p q o b l k v : Nat} (h : srPre M tx n p o b l) (hk : kk.toInt = k) (f1 : rdFr (rsM M x kk b) M1) (f2 : rdFr (fmI (fmI M1 (423 + b) 1 w) (423 + b) 2 ((fmI M1 (423 + b) 1 w).1 0 26)) M2) (hw : w.toInt = v) (hS : rS M2 tx n q) (hf : M2.1 0 5 = 0) : srOk M M2 tx n q b [(k, v, b + 1)] := by
  have hb := h.b
  have e26 : (rsM M x kk b).1 0 26 = M.1 0 26 + 1 := by
    unfold rsM
    rw [fmI_k _ _ (by omega), fmI_s, fmI_j _ _ (by decide)]
  have g26 : (fmI M1 (423 + b) 1 w).1 0 26 = M.1 0 26 + 1 := by
    rw [fmI_k _ _ (by omega), f1.2.1 26 (by decide) (by decide) (by decide), e26]
  have t26 : (M.1 0 26 + 1).toInt = ((b + 1 : Nat) : Int) := i32_p1 h.2.2.2.2.1 (by omega)
  refine ⟨hS, hf, ?_, ?_, fun i s hi => ?_, ((((rsM_fr hb).rd f1).row ⟨Nat.le_refl _, by omega⟩).row ⟨Nat.le_refl _, by omega⟩).rd f2⟩
  · rw [f2.2.1 8 (by decide) (by decide) (by decide), fmI_k _ _ (by omega), fmI_k _ _ (by omega), f1.2.1 8 (by decide) (by decide) (by decide)]
    unfold rsM
    rw [fmI_k _ _ (by omega), fmI_j _ _ (by decide), fmI_j _ _ (by decide)]
  · rw [f2.2.1 26 (by decide) (by decide) (by decide), fmI_k _ _ (by omega), g26]
    exact t26
  · cases i with
    | succ i => cases hi
    | zero =>
      cases hi
      rw [show 423 + b + 0 = 423 + b from rfl]
      refine ⟨?_, fun _ => ?_, ?_⟩
      · rw [f2.1 _ _ (by omega), fmI_j _ _ (by decide), fmI_j _ _ (by decide), f1.1 _ _ (by omega)]
        unfold rsM
        rw [fmI_s]
        exact hk
      · rw [f2.1 _ _ (by omega), fmI_j _ _ (by decide), fmI_s]
        exact hw
      · rw [f2.1 _ _ (by omega), fmI_s, g26]
        exact t26
/-- a week is read -/
theorem rs_wk {M M2 : fmM} {x : Int32} {tx : tX} {n p q o b l : Nat} (h : srPre M tx n p o b l) (f2 : rdFr (fmI (rsM M x 3 b) (423 + b) 2 ((rsM M x 3 b).1 0 26)) M2) (hS : rS M2 tx n q) (hf : M2.1 0 5 = 0) : srOk M M2 tx n q b [(3, 0, b + 1)] := by
  have hb := h.b
  have e26 : (rsM M x 3 b).1 0 26 = M.1 0 26 + 1 := by
    unfold rsM
    rw [fmI_k _ _ (by omega), fmI_s, fmI_j _ _ (by decide)]
  have t26 : (M.1 0 26 + 1).toInt = ((b + 1 : Nat) : Int) := i32_p1 h.2.2.2.2.1 (by omega)
  refine ⟨hS, hf, ?_, ?_, fun i s hi => ?_, ((rsM_fr hb).row ⟨Nat.le_refl _, by omega⟩).rd f2⟩
  · rw [f2.2.1 8 (by decide) (by decide) (by decide), fmI_k _ _ (by omega)]
    unfold rsM
    rw [fmI_k _ _ (by omega), fmI_j _ _ (by decide), fmI_j _ _ (by decide)]
  · rw [f2.2.1 26 (by decide) (by decide) (by decide), fmI_k _ _ (by omega), e26]
    exact t26
  · cases i with
    | succ i => cases hi
    | zero =>
      cases hi
      rw [show 423 + b + 0 = 423 + b from rfl]
      refine ⟨?_, fun h => absurd rfl h, ?_⟩
      · rw [f2.1 _ _ (by omega), fmI_j _ _ (by decide)]
        unfold rsM
        rw [fmI_s]
        exact (show (3 : Int32).toInt = 3 by decide)
      · rw [f2.1 _ _ (by omega), fmI_s, e26]
        exact t26
set_option maxRecDepth 20000 in
theorem c_stepHere {M : fmM} {Q : fmR → fmM → Prop} {tx : tX} {n p : Nat} (hS : rS M tx n p) (hf : M.1 0 5 = 0) (h_0 : ∀ x : Int32, stK (wd tx (sk tx p)) = some 0 → x.toInt = sk tx p → Q (.inl (some (.int 0))) (fmI M 0 4 x)) (h_1 : ∀ x : Int32, stK (wd tx (sk tx p)) = some 1 → x.toInt = sk tx p → Q (.inl (some (.int 1))) (fmI M 0 4 x)) (h_2 : ∀ x : Int32, stK (wd tx (sk tx p)) = some 2 → x.toInt = sk tx p → Q (.inl (some (.int 2))) (fmI M 0 4 x)) (h_3 : ∀ x : Int32, stK (wd tx (sk tx p)) = some 3 → x.toInt = sk tx p → Q (.inl (some (.int 3))) (fmI M 0 4 x)) (h_4 : ∀ x : Int32, stK (wd tx (sk tx p)) = some 4 → x.toInt = sk tx p → Q (.inl (some (.int 4))) (fmI M 0 4 x)) (hn : ∀ x : Int32, stK (wd tx (sk tx p)) = none → x.toInt = sk tx p → Q (.inl (some (.int (-1)))) (fmI M 0 4 x)) : pvGood Tm 4 qX11_stepHere [.ref 0] M Q := by
  refine pvGood_of (Nat.le_of_ble_eq_true rfl) ?_
  show pvEv Tm 4 qX11_stepHere 0 [some (.ref 0)] [] M Q
  refine pv_aloadn (pc := 0) (n := 0) 0 rfl rfl (fm_dec dtX11_stepHere 0 rfl) ?_
  refine pv_bipush (pc := 1) (v := 23) (by decide) (fm_dec dtX11_stepHere 1 rfl) ?_
  refine pv_bipush (pc := 3) (v := 18) (by decide) (fm_dec dtX11_stepHere 2 rfl) ?_
  refine pv_bipush (pc := 5) (v := 9) (by decide) (fm_dec dtX11_stepHere 3 rfl) ?_
  refine pv_bipush (pc := 7) (v := 20) (by decide) (fm_dec dtX11_stepHere 4 rfl) ?_
  refine pv_iconst (pc := 9) (v := 5) (by decide) (fm_dec dtX11_stepHere 5 rfl) ?_
  refine pv_invV5 (k := 0) (d' := 3) (pc := 10) pcv_X11_150 (by decide) rfl (Nat.le_of_ble_eq_true rfl) (by decide) (fm_dec dtX11_stepHere 6 rfl) ?_
  refine c_isWord [119, 114, 105, 116, 101] ⟨by decide, by decide, by decide⟩ hS hf (fun x10 e10 hx10 => ?_) (fun x10 e10 hx10 => ?_)
  · refine pv_then1 ?_
    refine pv_if_eq (pc := 13) 18 (by decide) (fm_dec dtX11_stepHere 7 rfl) (fun hc13 => by exfalso; revert hc13; decide) (fun _ => ?_)
    refine pv_iconst (pc := 16) (v := 0) (by decide) (fm_dec dtX11_stepHere 8 rfl) ?_
    exact pv_ireturn (pc := 17) rfl (fm_dec dtX11_stepHere 9 rfl) (by (try simp only [fmI_fmI]); exact h_0 x10 (by unfold stK; rw [if_pos e10]) hx10)
  · refine pv_then1 ?_
    refine pv_if_eq (pc := 13) 18 (by decide) (fm_dec dtX11_stepHere 7 rfl) (fun _ => ?_) (fun hc13 => by exfalso; revert hc13; decide)
    have hS1 := hS.set hx10 (hS.bl hx10).2.2.1
    refine pv_aloadn (pc := 18) (n := 0) 0 rfl rfl (fm_dec dtX11_stepHere 10 rfl) ?_
    refine pv_bipush (pc := 19) (v := 18) (by decide) (fm_dec dtX11_stepHere 11 rfl) ?_
    refine pv_iconst (pc := 21) (v := 5) (by decide) (fm_dec dtX11_stepHere 12 rfl) ?_
    refine pv_bipush (pc := 22) (v := 14) (by decide) (fm_dec dtX11_stepHere 13 rfl) ?_
    refine pv_iconst (pc := 24) (v := 5) (by decide) (fm_dec dtX11_stepHere 14 rfl) ?_
    refine pv_bipush (pc := 25) (v := 23) (by decide) (fm_dec dtX11_stepHere 15 rfl) ?_
    refine pv_invV5 (k := 0) (d' := 3) (pc := 27) pcv_X11_150 (by decide) rfl (Nat.le_of_ble_eq_true rfl) (by decide) (fm_dec dtX11_stepHere 16 rfl) ?_
    refine c_isWord [114, 101, 110, 101, 119] ⟨by decide, by decide, by decide⟩ hS1 hf (fun x27 e27 hx27 => ?_) (fun x27 e27 hx27 => ?_)
    · refine pv_then1 ?_
      refine pv_if_eq (pc := 30) 35 (by decide) (fm_dec dtX11_stepHere 17 rfl) (fun hc30 => by exfalso; revert hc30; decide) (fun _ => ?_)
      refine pv_iconst (pc := 33) (v := 1) (by decide) (fm_dec dtX11_stepHere 18 rfl) ?_
      exact pv_ireturn (pc := 34) rfl (fm_dec dtX11_stepHere 19 rfl) (by rw [sk_sk hS.2.2.2.1 hS.2.2.1] at e27 hx27; (try simp only [fmI_fmI]); exact h_1 x27 (by unfold stK; rw [if_neg e10]; rw [if_pos e27]) hx27)
    · refine pv_then1 ?_
      refine pv_if_eq (pc := 30) 35 (by decide) (fm_dec dtX11_stepHere 17 rfl) (fun _ => ?_) (fun hc30 => by exfalso; revert hc30; decide)
      rw [sk_sk hS.2.2.2.1 hS.2.2.1] at e27 hx27
      have hS2 := hS1.set hx27 hS1.2.2.1
      refine pv_aloadn (pc := 35) (n := 0) 0 rfl rfl (fm_dec dtX11_stepHere 20 rfl) ?_
      refine pv_iconst (pc := 36) (v := 4) (by decide) (fm_dec dtX11_stepHere 21 rfl) ?_
      refine pv_bipush (pc := 37) (v := 9) (by decide) (fm_dec dtX11_stepHere 22 rfl) ?_
      refine pv_iconst (pc := 39) (v := 5) (by decide) (fm_dec dtX11_stepHere 23 rfl) ?_
      refine pv_iconst (pc := 40) (v := 0) (by decide) (fm_dec dtX11_stepHere 24 rfl) ?_
      refine pv_iconst (pc := 41) (v := 0) (by decide) (fm_dec dtX11_stepHere 25 rfl) ?_
      refine pv_invV5 (k := 0) (d' := 3) (pc := 42) pcv_X11_150 (by decide) rfl (Nat.le_of_ble_eq_true rfl) (by decide) (fm_dec dtX11_stepHere 26 rfl) ?_
      refine c_isWord [100, 105, 101] ⟨by decide, by decide, by decide⟩ hS2 hf (fun x42 e42 hx42 => ?_) (fun x42 e42 hx42 => ?_)
      · refine pv_then1 ?_
        refine pv_if_eq (pc := 45) 50 (by decide) (fm_dec dtX11_stepHere 27 rfl) (fun hc45 => by exfalso; revert hc45; decide) (fun _ => ?_)
        refine pv_iconst (pc := 48) (v := 2) (by decide) (fm_dec dtX11_stepHere 28 rfl) ?_
        exact pv_ireturn (pc := 49) rfl (fm_dec dtX11_stepHere 29 rfl) (by rw [sk_sk hS.2.2.2.1 hS.2.2.1] at e42 hx42; (try simp only [fmI_fmI]); exact h_2 x42 (by unfold stK; rw [if_neg e10]; rw [if_neg e27]; rw [if_pos e42]) hx42)
      · refine pv_then1 ?_
        refine pv_if_eq (pc := 45) 50 (by decide) (fm_dec dtX11_stepHere 27 rfl) (fun _ => ?_) (fun hc45 => by exfalso; revert hc45; decide)
        rw [sk_sk hS.2.2.2.1 hS.2.2.1] at e42 hx42
        have hS3 := hS2.set hx42 hS1.2.2.1
        refine pv_aloadn (pc := 50) (n := 0) 0 rfl rfl (fm_dec dtX11_stepHere 30 rfl) ?_
        refine pv_bipush (pc := 51) (v := 23) (by decide) (fm_dec dtX11_stepHere 31 rfl) ?_
        refine pv_iconst (pc := 53) (v := 5) (by decide) (fm_dec dtX11_stepHere 32 rfl) ?_
        refine pv_iconst (pc := 54) (v := 5) (by decide) (fm_dec dtX11_stepHere 33 rfl) ?_
        refine pv_bipush (pc := 55) (v := 11) (by decide) (fm_dec dtX11_stepHere 34 rfl) ?_
        refine pv_iconst (pc := 57) (v := 0) (by decide) (fm_dec dtX11_stepHere 35 rfl) ?_
        refine pv_invV5 (k := 0) (d' := 3) (pc := 58) pcv_X11_150 (by decide) rfl (Nat.le_of_ble_eq_true rfl) (by decide) (fm_dec dtX11_stepHere 36 rfl) ?_
        refine c_isWord [119, 101, 101, 107] ⟨by decide, by decide, by decide⟩ hS3 hf (fun x58 e58 hx58 => ?_) (fun x58 e58 hx58 => ?_)
        · refine pv_then1 ?_
          refine pv_if_eq (pc := 61) 66 (by decide) (fm_dec dtX11_stepHere 37 rfl) (fun hc61 => by exfalso; revert hc61; decide) (fun _ => ?_)
          refine pv_iconst (pc := 64) (v := 3) (by decide) (fm_dec dtX11_stepHere 38 rfl) ?_
          exact pv_ireturn (pc := 65) rfl (fm_dec dtX11_stepHere 39 rfl) (by rw [sk_sk hS.2.2.2.1 hS.2.2.1] at e58 hx58; (try simp only [fmI_fmI]); exact h_3 x58 (by unfold stK; rw [if_neg e10]; rw [if_neg e27]; rw [if_neg e42]; rw [if_pos e58]) hx58)
        · refine pv_then1 ?_
          refine pv_if_eq (pc := 61) 66 (by decide) (fm_dec dtX11_stepHere 37 rfl) (fun _ => ?_) (fun hc61 => by exfalso; revert hc61; decide)
          rw [sk_sk hS.2.2.2.1 hS.2.2.1] at e58 hx58
          have hS4 := hS3.set hx58 hS1.2.2.1
          refine pv_aloadn (pc := 66) (n := 0) 0 rfl rfl (fm_dec dtX11_stepHere 40 rfl) ?_
          refine pv_iconst (pc := 67) (v := 1) (by decide) (fm_dec dtX11_stepHere 41 rfl) ?_
          refine pv_bipush (pc := 68) (v := 7) (by decide) (fm_dec dtX11_stepHere 42 rfl) ?_
          refine pv_iconst (pc := 70) (v := 1) (by decide) (fm_dec dtX11_stepHere 43 rfl) ?_
          refine pv_bipush (pc := 71) (v := 9) (by decide) (fm_dec dtX11_stepHere 44 rfl) ?_
          refine pv_bipush (pc := 73) (v := 14) (by decide) (fm_dec dtX11_stepHere 45 rfl) ?_
          refine pv_invV5 (k := 0) (d' := 3) (pc := 75) pcv_X11_150 (by decide) rfl (Nat.le_of_ble_eq_true rfl) (by decide) (fm_dec dtX11_stepHere 46 rfl) ?_
          refine c_isWord [97, 103, 97, 105, 110] ⟨by decide, by decide, by decide⟩ hS4 hf (fun x75 e75 hx75 => ?_) (fun x75 e75 hx75 => ?_)
          · refine pv_then1 ?_
            refine pv_if_eq (pc := 78) 85 (by decide) (fm_dec dtX11_stepHere 47 rfl) (fun hc78 => by exfalso; revert hc78; decide) (fun _ => ?_)
            refine pv_iconst (pc := 81) (v := 4) (by decide) (fm_dec dtX11_stepHere 48 rfl) ?_
            refine pv_goto (pc := 82) 86 (by decide) (fm_dec dtX11_stepHere 49 rfl) ?_
            exact pv_ireturn (pc := 86) rfl (fm_dec dtX11_stepHere 51 rfl) (by rw [sk_sk hS.2.2.2.1 hS.2.2.1] at e75 hx75; (try simp only [fmI_fmI]); first | exact h_4 x75 (by unfold stK; rw [if_neg e10]; rw [if_neg e27]; rw [if_neg e42]; rw [if_neg e58]; rw [if_pos e75]) hx75 | exact hn x75 (by unfold stK; rw [if_neg e10, if_neg e27, if_neg e42, if_neg e58, if_neg e75]) hx75)
          · refine pv_then1 ?_
            refine pv_if_eq (pc := 78) 85 (by decide) (fm_dec dtX11_stepHere 47 rfl) (fun _ => ?_) (fun hc78 => by exfalso; revert hc78; decide)
            refine pv_iconst (pc := 85) (v := (-1)) (by decide) (fm_dec dtX11_stepHere 50 rfl) ?_
            exact pv_ireturn (pc := 86) rfl (fm_dec dtX11_stepHere 51 rfl) (by rw [sk_sk hS.2.2.2.1 hS.2.2.1] at e75 hx75; (try simp only [fmI_fmI]); first | exact h_4 x75 (by unfold stK; rw [if_neg e10]; rw [if_neg e27]; rw [if_neg e42]; rw [if_neg e58]; rw [if_pos e75]) hx75 | exact hn x75 (by unfold stK; rw [if_neg e10, if_neg e27, if_neg e42, if_neg e58, if_neg e75]) hx75)
set_option maxRecDepth 20000 in
theorem rs5_0 {Q : fmR → fmM → Prop} {M : fmM} {tx : tX} {n a o b l : Nat} {v2 : Option Value} (hP : srPre M tx n a o b l) (hok : ∀ (M' : fmM) (ss : tS) (q' : Nat), spSi tx l 0 b (sp tW tx a) = .inr (ss, q') → srOk M M' tx n q' b ss → Q (.inl none) M') (hbad : ∀ (M' : fmM) (k a' : Nat), spSi tx l 0 b (sp tW tx a) = .inl (k, a') → srBad M M' tx n k a' b → Q (.inl none) M') : pvEv Tm (5 + (6 - o)) qX11_readsStep 5 [some (.ref 0), some (.int 0), v2] [] M Q := by
  refine pv_iloadn (pc := 5) (n := 1) 1 rfl rfl (fm_dec dtX11_readsStep 3 rfl) ?_
  refine pv_iconst (pc := 6) (v := (-1)) (by decide) (fm_dec dtX11_readsStep 4 rfl) ?_
  refine pv_icmp_ne (pc := 7) 19 (by decide) (fm_dec dtX11_readsStep 5 rfl) (fun _ => ?_) (fun hc7 => by exfalso; revert hc7; decide)
  refine pv_iloadn (pc := 19) (n := 1) 1 rfl rfl (fm_dec dtX11_readsStep 11 rfl) ?_
  refine pv_iconst (pc := 20) (v := 4) (by decide) (fm_dec dtX11_readsStep 12 rfl) ?_
  refine pv_icmp_ne (pc := 21) 32 (by decide) (fm_dec dtX11_readsStep 13 rfl) (fun _ => ?_) (fun hc21 => by exfalso; revert hc21; decide)
  refine pv_aloadn (pc := 32) (n := 0) 0 rfl rfl (fm_dec dtX11_readsStep 18 rfl) ?_
  refine pv_getI (k := 0) (j := 5) (ci := 11) (pc := 33) pfl_X11_117 (by decide) rfl (by decide) (fm_dec dtX11_readsStep 19 rfl) ?_
  refine pv_if_eq (pc := 36) 40 (by decide) (fm_dec dtX11_readsStep 20 rfl) (fun _ => ?_) (fun hc36 => by exfalso; exact hc36 hP.2.1)
  refine pv_aloadn (pc := 40) (n := 0) 0 rfl rfl (fm_dec dtX11_readsStep 22 rfl) ?_
  refine pv_invV0 (k := 0) (d' := 1) (pc := 41) pcv_X11_154 (by decide) rfl (Nat.le_of_ble_eq_true rfl) (by omega) (fm_dec dtX11_readsStep 23 rfl) ?_
  refine c_skipWord hP.1 (fun x40 hx40 => ?_)
  refine pv_then0 ?_
  have hb80 := hP.b
  have hw40 := sp_le (p := a) tW_1 hP.1.2.2.2.1 hP.1.2.2.1
  refine pv_aloadn (pc := 44) (n := 0) 0 rfl rfl (fm_dec dtX11_readsStep 24 rfl) ?_
  refine pv_getR (k := 0) (j := 25) (ci := 11) (pc := 45) 24 rfl (by decide) pfl_X11_58 (by decide) rfl (by decide) (fm_dec dtX11_readsStep 25 rfl) ?_
  refine pv_aloadn (pc := 48) (n := 0) 0 rfl rfl (fm_dec dtX11_readsStep 26 rfl) ?_
  refine pv_getI (k := 0) (j := 26) (ci := 11) (pc := 49) pfl_X11_250 (by decide) rfl (by decide) (fm_dec dtX11_readsStep 27 rfl) ?_
  refine pv_aald (k := 24) (n := 80) (r := (423 + b)) (pc := 52) (by decide) (Or.inr (Or.inr rfl)) rfl (rw_step.inb hP.2.2.2.2.1 hb80) (rw_step.at hP.2.2.2.2.1 hb80) (rw_step.2.2.2 _ hb80).2.1 (fm_dec dtX11_readsStep 28 rfl) ?_
  refine pv_astoren (pc := 53) (n := 2) 2 rfl (by decide) rfl (fm_dec dtX11_readsStep 29 rfl) ?_
  dsimp only [List.set_cons_zero, List.set_cons_succ]
  refine pv_aloadn (pc := 54) (n := 0) 0 rfl rfl (fm_dec dtX11_readsStep 30 rfl) ?_
  refine pv_dup (pc := 55) rfl (fm_dec dtX11_readsStep 31 rfl) ?_
  refine pv_getI (k := 0) (j := 26) (ci := 11) (pc := 56) pfl_X11_250 (by decide) rfl (by decide) (fm_dec dtX11_readsStep 32 rfl) ?_
  refine pv_iconst (pc := 59) (v := 1) (by decide) (fm_dec dtX11_readsStep 33 rfl) ?_
  refine pv_iadd (pc := 60) (fm_dec dtX11_readsStep 34 rfl) ?_
  refine pv_putI (k := 0) (j := 26) (ci := 11) (pc := 61) pfl_X11_250 (by decide) rfl (by decide) (fm_dec dtX11_readsStep 35 rfl) ?_
  refine pv_aloadn (pc := 64) (n := 2) 2 rfl rfl (fm_dec dtX11_readsStep 36 rfl) ?_
  refine pv_iconst (pc := 65) (v := 0) (by decide) (fm_dec dtX11_readsStep 37 rfl) ?_
  refine pv_iloadn (pc := 66) (n := 1) 1 rfl rfl (fm_dec dtX11_readsStep 38 rfl) ?_
  refine pv_iast (k := (423 + b)) (n := 3) (pc := 67) (rw_step.2.2.2 _ hb80).2.2.1 (rw_step.2.2.2 _ hb80).2.2.2.1 (rw_step.2.2.2 _ hb80).2.2.2.2 (fm_inl (by decide)) (fm_dec dtX11_readsStep 39 rfl) ?_
  refine pv_iloadn (pc := 68) (n := 1) 1 rfl rfl (fm_dec dtX11_readsStep 40 rfl) ?_
  refine pv_iconst (pc := 69) (v := 3) (by decide) (fm_dec dtX11_readsStep 41 rfl) ?_
  refine pv_icmp_ge (pc := 70) 89 (by decide) (fm_dec dtX11_readsStep 42 rfl) (fun hc70 => by exfalso; revert hc70; decide) (fun _ => ?_)
  refine pv_aloadn (pc := 73) (n := 2) 2 rfl rfl (fm_dec dtX11_readsStep 43 rfl) ?_
  refine pv_iconst (pc := 74) (v := 1) (by decide) (fm_dec dtX11_readsStep 44 rfl) ?_
  refine pv_aloadn (pc := 75) (n := 0) 0 rfl rfl (fm_dec dtX11_readsStep 45 rfl) ?_
  refine pv_iconst (pc := 76) (v := 0) (by decide) (fm_dec dtX11_readsStep 46 rfl) ?_
  refine pv_aloadn (pc := 77) (n := 0) 0 rfl rfl (fm_dec dtX11_readsStep 47 rfl) ?_
  refine pv_getR (k := 0) (j := 12) (ci := 11) (pc := 78) 4 rfl (by decide) pfl_X11_23 (by decide) rfl (by decide) (fm_dec dtX11_readsStep 48 rfl) ?_
  refine pv_iconst (pc := 81) (v := 0) (by decide) (fm_dec dtX11_readsStep 49 rfl) ?_
  refine pv_iald (k := 4) (n := 6) (pc := 82) (by decide) rfl rfl (fm_inl (by decide)) (fm_dec dtX11_readsStep 50 rfl) ?_
  refine pv_iconst (pc := 83) (v := 1) (by decide) (fm_dec dtX11_readsStep 51 rfl) ?_
  refine pv_isub (pc := 84) (fm_dec dtX11_readsStep 52 rfl) ?_
  refine pv_invV2 (k := 0) (d' := 2) (pc := 85) pcv_X11_163 (by decide) rfl (Nat.le_of_ble_eq_true rfl) (by omega) (fm_dec dtX11_readsStep 53 rfl) ?_
  refine r_num (M := rsM M x40 0 b) (tx := tx) (n := n) (p := sp tW tx a) 0 ((l : Int) - 1) ⟨by decide, (by have h9 : (rsM M x40 0 b).1 4 0 = M.1 4 0 := (by unfold rsM; rw [fmI_k _ _ (by omega), fmI_k _ _ (by decide), fmI_k _ _ (by decide)]); exact (congrArg (fun y => (y - 1 : Int32).toInt) h9).trans (lh_hi hP.2.2.2.2.2.2.2.1 hP.2.2.2.2.2.2.2.2)), (by have := hP.2.2.2.2.2.2.2.2; omega)⟩ (rsM_S hP hx40 hw40).1 (rsM_S hP hx40 hw40).2 (fun M85 v85 q85 w85 e85 hw85 k85 => ?_) (fun Mb kb ab eb hB => ?_)  
  · refine pv_then1 ?_
    refine pv_iast (k := (423 + b)) (n := 3) (pc := 88) (rw_step.2.2.2 _ hb80).2.2.1 (rw_step.2.2.2 _ hb80).2.2.2.1 (rw_step.2.2.2 _ hb80).2.2.2.2 (fm_inl (by decide)) (fm_dec dtX11_readsStep 54 rfl) ?_
    refine pv_iloadn (pc := 89) (n := 1) 1 rfl rfl (fm_dec dtX11_readsStep 55 rfl) ?_
    refine pv_iconst (pc := 90) (v := 4) (by decide) (fm_dec dtX11_readsStep 56 rfl) ?_
    refine pv_icmp_ne (pc := 91) 161 (by decide) (fm_dec dtX11_readsStep 57 rfl) (fun _ => ?_) (fun hc91 => by exfalso; revert hc91; decide)
    refine pv_aloadn (pc := 161) (n := 2) 2 rfl rfl (fm_dec dtX11_readsStep 93 rfl) ?_
    refine pv_iconst (pc := 162) (v := 2) (by decide) (fm_dec dtX11_readsStep 94 rfl) ?_
    refine pv_aloadn (pc := 163) (n := 0) 0 rfl rfl (fm_dec dtX11_readsStep 95 rfl) ?_
    refine pv_getI (k := 0) (j := 26) (ci := 11) (pc := 164) pfl_X11_250 (by decide) rfl (by decide) (fm_dec dtX11_readsStep 96 rfl) ?_
    refine pv_iast (k := (423 + b)) (n := 3) (pc := 167) (rw_step.2.2.2 _ hb80).2.2.1 (rw_step.2.2.2 _ hb80).2.2.2.1 (rw_step.2.2.2 _ hb80).2.2.2.2 (fm_inl (by decide)) (fm_dec dtX11_readsStep 97 rfl) ?_
    refine pv_aloadn (pc := 168) (n := 0) 0 rfl rfl (fm_dec dtX11_readsStep 98 rfl) ?_
    refine pv_bipush (pc := 169) (v := 59) (by decide) (fm_dec dtX11_readsStep 99 rfl) ?_
    refine pv_invV1 (k := 0) (d' := 2) (pc := 171) pcv_X11_173 (by decide) rfl (Nat.le_of_ble_eq_true rfl) (by omega) (fm_dec dtX11_readsStep 100 rfl) ?_
    refine r_sign (tx := tx) (n := n) (p := q85) 59 ⟨by decide, by decide⟩ (by (repeat with_reducible refine rS.row ?_ ⟨by omega, by omega⟩); exact k85.1) (by (repeat with_reducible refine f0.row ?_ (by omega)); exact k85.2.1) (fun M171 q171 e171 k171 => ?_) (fun Mb kb ab eb hB => ?_)  
    · refine pv_then0 ?_
      exact pv_return (pc := 174) rfl (fm_dec dtX11_readsStep 101 rfl) (hok _ _ _ (by simp only [spSi, spBind, e85, e171]) (rs_one (k := 0) hP (by decide) k85.2.2 k171.2.2 hw85 k171.1 k171.2.1))
    · refine pv_then0 ?_
      have hB9 := srBad.of ((((rsM_fr hb80).rd k85.2.2).row ⟨Nat.le_refl _, by omega⟩).row ⟨Nat.le_refl _, by omega⟩) hB
      exact pv_return (pc := 174) rfl (fm_dec dtX11_readsStep 101 rfl) (hbad _ kb ab (by simp only [spSi, spBind, e85, eb]) hB9)
  · refine pv_then1 ?_
    have hB9 := srBad.of (rsM_fr hb80) hB
    refine pv_iast (k := (423 + b)) (n := 3) (pc := 88) (rw_step.2.2.2 _ hb80).2.2.1 (rw_step.2.2.2 _ hb80).2.2.2.1 (rw_step.2.2.2 _ hb80).2.2.2.2 (fm_inl (by decide)) (fm_dec dtX11_readsStep 54 rfl) ?_
    refine pv_iloadn (pc := 89) (n := 1) 1 rfl rfl (fm_dec dtX11_readsStep 55 rfl) ?_
    refine pv_iconst (pc := 90) (v := 4) (by decide) (fm_dec dtX11_readsStep 56 rfl) ?_
    refine pv_icmp_ne (pc := 91) 161 (by decide) (fm_dec dtX11_readsStep 57 rfl) (fun _ => ?_) (fun hc91 => by exfalso; revert hc91; decide)
    refine pv_aloadn (pc := 161) (n := 2) 2 rfl rfl (fm_dec dtX11_readsStep 93 rfl) ?_
    refine pv_iconst (pc := 162) (v := 2) (by decide) (fm_dec dtX11_readsStep 94 rfl) ?_
    refine pv_aloadn (pc := 163) (n := 0) 0 rfl rfl (fm_dec dtX11_readsStep 95 rfl) ?_
    refine pv_getI (k := 0) (j := 26) (ci := 11) (pc := 164) pfl_X11_250 (by decide) rfl (by decide) (fm_dec dtX11_readsStep 96 rfl) ?_
    refine pv_iast (k := (423 + b)) (n := 3) (pc := 167) (rw_step.2.2.2 _ hb80).2.2.1 (rw_step.2.2.2 _ hb80).2.2.2.1 (rw_step.2.2.2 _ hb80).2.2.2.2 (fm_inl (by decide)) (fm_dec dtX11_readsStep 97 rfl) ?_
    refine pv_aloadn (pc := 168) (n := 0) 0 rfl rfl (fm_dec dtX11_readsStep 98 rfl) ?_
    refine pv_bipush (pc := 169) (v := 59) (by decide) (fm_dec dtX11_readsStep 99 rfl) ?_
    refine pv_invV1 (k := 0) (d' := 2) (pc := 171) pcv_X11_173 (by decide) rfl (Nat.le_of_ble_eq_true rfl) (by omega) (fm_dec dtX11_readsStep 100 rfl) ?_
    refine c_sign1 (srBad.nz (M := M) (tx := tx) (n := n) (k := kb) (a := ab) (b := b) (by (repeat with_reducible refine srBad.row ⟨by omega, by omega⟩ ?_); exact hB9)) ?_
    refine pv_then0 ?_
    exact pv_return (pc := 174) rfl (fm_dec dtX11_readsStep 101 rfl) (hbad _ kb ab (by simp only [spSi, spBind, eb]) (by (repeat with_reducible refine srBad.row ⟨by omega, by omega⟩ ?_); exact hB9))
set_option maxRecDepth 20000 in
theorem rs5_1 {Q : fmR → fmM → Prop} {M : fmM} {tx : tX} {n a o b l : Nat} {v2 : Option Value} (hP : srPre M tx n a o b l) (hok : ∀ (M' : fmM) (ss : tS) (q' : Nat), spSi tx l 1 b (sp tW tx a) = .inr (ss, q') → srOk M M' tx n q' b ss → Q (.inl none) M') (hbad : ∀ (M' : fmM) (k a' : Nat), spSi tx l 1 b (sp tW tx a) = .inl (k, a') → srBad M M' tx n k a' b → Q (.inl none) M') : pvEv Tm (5 + (6 - o)) qX11_readsStep 5 [some (.ref 0), some (.int 1), v2] [] M Q := by
  refine pv_iloadn (pc := 5) (n := 1) 1 rfl rfl (fm_dec dtX11_readsStep 3 rfl) ?_
  refine pv_iconst (pc := 6) (v := (-1)) (by decide) (fm_dec dtX11_readsStep 4 rfl) ?_
  refine pv_icmp_ne (pc := 7) 19 (by decide) (fm_dec dtX11_readsStep 5 rfl) (fun _ => ?_) (fun hc7 => by exfalso; revert hc7; decide)
  refine pv_iloadn (pc := 19) (n := 1) 1 rfl rfl (fm_dec dtX11_readsStep 11 rfl) ?_
  refine pv_iconst (pc := 20) (v := 4) (by decide) (fm_dec dtX11_readsStep 12 rfl) ?_
  refine pv_icmp_ne (pc := 21) 32 (by decide) (fm_dec dtX11_readsStep 13 rfl) (fun _ => ?_) (fun hc21 => by exfalso; revert hc21; decide)
  refine pv_aloadn (pc := 32) (n := 0) 0 rfl rfl (fm_dec dtX11_readsStep 18 rfl) ?_
  refine pv_getI (k := 0) (j := 5) (ci := 11) (pc := 33) pfl_X11_117 (by decide) rfl (by decide) (fm_dec dtX11_readsStep 19 rfl) ?_
  refine pv_if_eq (pc := 36) 40 (by decide) (fm_dec dtX11_readsStep 20 rfl) (fun _ => ?_) (fun hc36 => by exfalso; exact hc36 hP.2.1)
  refine pv_aloadn (pc := 40) (n := 0) 0 rfl rfl (fm_dec dtX11_readsStep 22 rfl) ?_
  refine pv_invV0 (k := 0) (d' := 1) (pc := 41) pcv_X11_154 (by decide) rfl (Nat.le_of_ble_eq_true rfl) (by omega) (fm_dec dtX11_readsStep 23 rfl) ?_
  refine c_skipWord hP.1 (fun x40 hx40 => ?_)
  refine pv_then0 ?_
  have hb80 := hP.b
  have hw40 := sp_le (p := a) tW_1 hP.1.2.2.2.1 hP.1.2.2.1
  refine pv_aloadn (pc := 44) (n := 0) 0 rfl rfl (fm_dec dtX11_readsStep 24 rfl) ?_
  refine pv_getR (k := 0) (j := 25) (ci := 11) (pc := 45) 24 rfl (by decide) pfl_X11_58 (by decide) rfl (by decide) (fm_dec dtX11_readsStep 25 rfl) ?_
  refine pv_aloadn (pc := 48) (n := 0) 0 rfl rfl (fm_dec dtX11_readsStep 26 rfl) ?_
  refine pv_getI (k := 0) (j := 26) (ci := 11) (pc := 49) pfl_X11_250 (by decide) rfl (by decide) (fm_dec dtX11_readsStep 27 rfl) ?_
  refine pv_aald (k := 24) (n := 80) (r := (423 + b)) (pc := 52) (by decide) (Or.inr (Or.inr rfl)) rfl (rw_step.inb hP.2.2.2.2.1 hb80) (rw_step.at hP.2.2.2.2.1 hb80) (rw_step.2.2.2 _ hb80).2.1 (fm_dec dtX11_readsStep 28 rfl) ?_
  refine pv_astoren (pc := 53) (n := 2) 2 rfl (by decide) rfl (fm_dec dtX11_readsStep 29 rfl) ?_
  dsimp only [List.set_cons_zero, List.set_cons_succ]
  refine pv_aloadn (pc := 54) (n := 0) 0 rfl rfl (fm_dec dtX11_readsStep 30 rfl) ?_
  refine pv_dup (pc := 55) rfl (fm_dec dtX11_readsStep 31 rfl) ?_
  refine pv_getI (k := 0) (j := 26) (ci := 11) (pc := 56) pfl_X11_250 (by decide) rfl (by decide) (fm_dec dtX11_readsStep 32 rfl) ?_
  refine pv_iconst (pc := 59) (v := 1) (by decide) (fm_dec dtX11_readsStep 33 rfl) ?_
  refine pv_iadd (pc := 60) (fm_dec dtX11_readsStep 34 rfl) ?_
  refine pv_putI (k := 0) (j := 26) (ci := 11) (pc := 61) pfl_X11_250 (by decide) rfl (by decide) (fm_dec dtX11_readsStep 35 rfl) ?_
  refine pv_aloadn (pc := 64) (n := 2) 2 rfl rfl (fm_dec dtX11_readsStep 36 rfl) ?_
  refine pv_iconst (pc := 65) (v := 0) (by decide) (fm_dec dtX11_readsStep 37 rfl) ?_
  refine pv_iloadn (pc := 66) (n := 1) 1 rfl rfl (fm_dec dtX11_readsStep 38 rfl) ?_
  refine pv_iast (k := (423 + b)) (n := 3) (pc := 67) (rw_step.2.2.2 _ hb80).2.2.1 (rw_step.2.2.2 _ hb80).2.2.2.1 (rw_step.2.2.2 _ hb80).2.2.2.2 (fm_inl (by decide)) (fm_dec dtX11_readsStep 39 rfl) ?_
  refine pv_iloadn (pc := 68) (n := 1) 1 rfl rfl (fm_dec dtX11_readsStep 40 rfl) ?_
  refine pv_iconst (pc := 69) (v := 3) (by decide) (fm_dec dtX11_readsStep 41 rfl) ?_
  refine pv_icmp_ge (pc := 70) 89 (by decide) (fm_dec dtX11_readsStep 42 rfl) (fun hc70 => by exfalso; revert hc70; decide) (fun _ => ?_)
  refine pv_aloadn (pc := 73) (n := 2) 2 rfl rfl (fm_dec dtX11_readsStep 43 rfl) ?_
  refine pv_iconst (pc := 74) (v := 1) (by decide) (fm_dec dtX11_readsStep 44 rfl) ?_
  refine pv_aloadn (pc := 75) (n := 0) 0 rfl rfl (fm_dec dtX11_readsStep 45 rfl) ?_
  refine pv_iconst (pc := 76) (v := 0) (by decide) (fm_dec dtX11_readsStep 46 rfl) ?_
  refine pv_aloadn (pc := 77) (n := 0) 0 rfl rfl (fm_dec dtX11_readsStep 47 rfl) ?_
  refine pv_getR (k := 0) (j := 12) (ci := 11) (pc := 78) 4 rfl (by decide) pfl_X11_23 (by decide) rfl (by decide) (fm_dec dtX11_readsStep 48 rfl) ?_
  refine pv_iconst (pc := 81) (v := 0) (by decide) (fm_dec dtX11_readsStep 49 rfl) ?_
  refine pv_iald (k := 4) (n := 6) (pc := 82) (by decide) rfl rfl (fm_inl (by decide)) (fm_dec dtX11_readsStep 50 rfl) ?_
  refine pv_iconst (pc := 83) (v := 1) (by decide) (fm_dec dtX11_readsStep 51 rfl) ?_
  refine pv_isub (pc := 84) (fm_dec dtX11_readsStep 52 rfl) ?_
  refine pv_invV2 (k := 0) (d' := 2) (pc := 85) pcv_X11_163 (by decide) rfl (Nat.le_of_ble_eq_true rfl) (by omega) (fm_dec dtX11_readsStep 53 rfl) ?_
  refine r_num (M := rsM M x40 1 b) (tx := tx) (n := n) (p := sp tW tx a) 0 ((l : Int) - 1) ⟨by decide, (by have h9 : (rsM M x40 1 b).1 4 0 = M.1 4 0 := (by unfold rsM; rw [fmI_k _ _ (by omega), fmI_k _ _ (by decide), fmI_k _ _ (by decide)]); exact (congrArg (fun y => (y - 1 : Int32).toInt) h9).trans (lh_hi hP.2.2.2.2.2.2.2.1 hP.2.2.2.2.2.2.2.2)), (by have := hP.2.2.2.2.2.2.2.2; omega)⟩ (rsM_S hP hx40 hw40).1 (rsM_S hP hx40 hw40).2 (fun M85 v85 q85 w85 e85 hw85 k85 => ?_) (fun Mb kb ab eb hB => ?_)  
  · refine pv_then1 ?_
    refine pv_iast (k := (423 + b)) (n := 3) (pc := 88) (rw_step.2.2.2 _ hb80).2.2.1 (rw_step.2.2.2 _ hb80).2.2.2.1 (rw_step.2.2.2 _ hb80).2.2.2.2 (fm_inl (by decide)) (fm_dec dtX11_readsStep 54 rfl) ?_
    refine pv_iloadn (pc := 89) (n := 1) 1 rfl rfl (fm_dec dtX11_readsStep 55 rfl) ?_
    refine pv_iconst (pc := 90) (v := 4) (by decide) (fm_dec dtX11_readsStep 56 rfl) ?_
    refine pv_icmp_ne (pc := 91) 161 (by decide) (fm_dec dtX11_readsStep 57 rfl) (fun _ => ?_) (fun hc91 => by exfalso; revert hc91; decide)
    refine pv_aloadn (pc := 161) (n := 2) 2 rfl rfl (fm_dec dtX11_readsStep 93 rfl) ?_
    refine pv_iconst (pc := 162) (v := 2) (by decide) (fm_dec dtX11_readsStep 94 rfl) ?_
    refine pv_aloadn (pc := 163) (n := 0) 0 rfl rfl (fm_dec dtX11_readsStep 95 rfl) ?_
    refine pv_getI (k := 0) (j := 26) (ci := 11) (pc := 164) pfl_X11_250 (by decide) rfl (by decide) (fm_dec dtX11_readsStep 96 rfl) ?_
    refine pv_iast (k := (423 + b)) (n := 3) (pc := 167) (rw_step.2.2.2 _ hb80).2.2.1 (rw_step.2.2.2 _ hb80).2.2.2.1 (rw_step.2.2.2 _ hb80).2.2.2.2 (fm_inl (by decide)) (fm_dec dtX11_readsStep 97 rfl) ?_
    refine pv_aloadn (pc := 168) (n := 0) 0 rfl rfl (fm_dec dtX11_readsStep 98 rfl) ?_
    refine pv_bipush (pc := 169) (v := 59) (by decide) (fm_dec dtX11_readsStep 99 rfl) ?_
    refine pv_invV1 (k := 0) (d' := 2) (pc := 171) pcv_X11_173 (by decide) rfl (Nat.le_of_ble_eq_true rfl) (by omega) (fm_dec dtX11_readsStep 100 rfl) ?_
    refine r_sign (tx := tx) (n := n) (p := q85) 59 ⟨by decide, by decide⟩ (by (repeat with_reducible refine rS.row ?_ ⟨by omega, by omega⟩); exact k85.1) (by (repeat with_reducible refine f0.row ?_ (by omega)); exact k85.2.1) (fun M171 q171 e171 k171 => ?_) (fun Mb kb ab eb hB => ?_)  
    · refine pv_then0 ?_
      exact pv_return (pc := 174) rfl (fm_dec dtX11_readsStep 101 rfl) (hok _ _ _ (by simp only [spSi, spBind, e85, e171]) (rs_one (k := 1) hP (by decide) k85.2.2 k171.2.2 hw85 k171.1 k171.2.1))
    · refine pv_then0 ?_
      have hB9 := srBad.of ((((rsM_fr hb80).rd k85.2.2).row ⟨Nat.le_refl _, by omega⟩).row ⟨Nat.le_refl _, by omega⟩) hB
      exact pv_return (pc := 174) rfl (fm_dec dtX11_readsStep 101 rfl) (hbad _ kb ab (by simp only [spSi, spBind, e85, eb]) hB9)
  · refine pv_then1 ?_
    have hB9 := srBad.of (rsM_fr hb80) hB
    refine pv_iast (k := (423 + b)) (n := 3) (pc := 88) (rw_step.2.2.2 _ hb80).2.2.1 (rw_step.2.2.2 _ hb80).2.2.2.1 (rw_step.2.2.2 _ hb80).2.2.2.2 (fm_inl (by decide)) (fm_dec dtX11_readsStep 54 rfl) ?_
    refine pv_iloadn (pc := 89) (n := 1) 1 rfl rfl (fm_dec dtX11_readsStep 55 rfl) ?_
    refine pv_iconst (pc := 90) (v := 4) (by decide) (fm_dec dtX11_readsStep 56 rfl) ?_
    refine pv_icmp_ne (pc := 91) 161 (by decide) (fm_dec dtX11_readsStep 57 rfl) (fun _ => ?_) (fun hc91 => by exfalso; revert hc91; decide)
    refine pv_aloadn (pc := 161) (n := 2) 2 rfl rfl (fm_dec dtX11_readsStep 93 rfl) ?_
    refine pv_iconst (pc := 162) (v := 2) (by decide) (fm_dec dtX11_readsStep 94 rfl) ?_
    refine pv_aloadn (pc := 163) (n := 0) 0 rfl rfl (fm_dec dtX11_readsStep 95 rfl) ?_
    refine pv_getI (k := 0) (j := 26) (ci := 11) (pc := 164) pfl_X11_250 (by decide) rfl (by decide) (fm_dec dtX11_readsStep 96 rfl) ?_
    refine pv_iast (k := (423 + b)) (n := 3) (pc := 167) (rw_step.2.2.2 _ hb80).2.2.1 (rw_step.2.2.2 _ hb80).2.2.2.1 (rw_step.2.2.2 _ hb80).2.2.2.2 (fm_inl (by decide)) (fm_dec dtX11_readsStep 97 rfl) ?_
    refine pv_aloadn (pc := 168) (n := 0) 0 rfl rfl (fm_dec dtX11_readsStep 98 rfl) ?_
    refine pv_bipush (pc := 169) (v := 59) (by decide) (fm_dec dtX11_readsStep 99 rfl) ?_
    refine pv_invV1 (k := 0) (d' := 2) (pc := 171) pcv_X11_173 (by decide) rfl (Nat.le_of_ble_eq_true rfl) (by omega) (fm_dec dtX11_readsStep 100 rfl) ?_
    refine c_sign1 (srBad.nz (M := M) (tx := tx) (n := n) (k := kb) (a := ab) (b := b) (by (repeat with_reducible refine srBad.row ⟨by omega, by omega⟩ ?_); exact hB9)) ?_
    refine pv_then0 ?_
    exact pv_return (pc := 174) rfl (fm_dec dtX11_readsStep 101 rfl) (hbad _ kb ab (by simp only [spSi, spBind, eb]) (by (repeat with_reducible refine srBad.row ⟨by omega, by omega⟩ ?_); exact hB9))
set_option maxRecDepth 20000 in
theorem rs5_2 {Q : fmR → fmM → Prop} {M : fmM} {tx : tX} {n a o b l : Nat} {v2 : Option Value} (hP : srPre M tx n a o b l) (hok : ∀ (M' : fmM) (ss : tS) (q' : Nat), spSi tx l 2 b (sp tW tx a) = .inr (ss, q') → srOk M M' tx n q' b ss → Q (.inl none) M') (hbad : ∀ (M' : fmM) (k a' : Nat), spSi tx l 2 b (sp tW tx a) = .inl (k, a') → srBad M M' tx n k a' b → Q (.inl none) M') : pvEv Tm (5 + (6 - o)) qX11_readsStep 5 [some (.ref 0), some (.int 2), v2] [] M Q := by
  refine pv_iloadn (pc := 5) (n := 1) 1 rfl rfl (fm_dec dtX11_readsStep 3 rfl) ?_
  refine pv_iconst (pc := 6) (v := (-1)) (by decide) (fm_dec dtX11_readsStep 4 rfl) ?_
  refine pv_icmp_ne (pc := 7) 19 (by decide) (fm_dec dtX11_readsStep 5 rfl) (fun _ => ?_) (fun hc7 => by exfalso; revert hc7; decide)
  refine pv_iloadn (pc := 19) (n := 1) 1 rfl rfl (fm_dec dtX11_readsStep 11 rfl) ?_
  refine pv_iconst (pc := 20) (v := 4) (by decide) (fm_dec dtX11_readsStep 12 rfl) ?_
  refine pv_icmp_ne (pc := 21) 32 (by decide) (fm_dec dtX11_readsStep 13 rfl) (fun _ => ?_) (fun hc21 => by exfalso; revert hc21; decide)
  refine pv_aloadn (pc := 32) (n := 0) 0 rfl rfl (fm_dec dtX11_readsStep 18 rfl) ?_
  refine pv_getI (k := 0) (j := 5) (ci := 11) (pc := 33) pfl_X11_117 (by decide) rfl (by decide) (fm_dec dtX11_readsStep 19 rfl) ?_
  refine pv_if_eq (pc := 36) 40 (by decide) (fm_dec dtX11_readsStep 20 rfl) (fun _ => ?_) (fun hc36 => by exfalso; exact hc36 hP.2.1)
  refine pv_aloadn (pc := 40) (n := 0) 0 rfl rfl (fm_dec dtX11_readsStep 22 rfl) ?_
  refine pv_invV0 (k := 0) (d' := 1) (pc := 41) pcv_X11_154 (by decide) rfl (Nat.le_of_ble_eq_true rfl) (by omega) (fm_dec dtX11_readsStep 23 rfl) ?_
  refine c_skipWord hP.1 (fun x40 hx40 => ?_)
  refine pv_then0 ?_
  have hb80 := hP.b
  have hw40 := sp_le (p := a) tW_1 hP.1.2.2.2.1 hP.1.2.2.1
  refine pv_aloadn (pc := 44) (n := 0) 0 rfl rfl (fm_dec dtX11_readsStep 24 rfl) ?_
  refine pv_getR (k := 0) (j := 25) (ci := 11) (pc := 45) 24 rfl (by decide) pfl_X11_58 (by decide) rfl (by decide) (fm_dec dtX11_readsStep 25 rfl) ?_
  refine pv_aloadn (pc := 48) (n := 0) 0 rfl rfl (fm_dec dtX11_readsStep 26 rfl) ?_
  refine pv_getI (k := 0) (j := 26) (ci := 11) (pc := 49) pfl_X11_250 (by decide) rfl (by decide) (fm_dec dtX11_readsStep 27 rfl) ?_
  refine pv_aald (k := 24) (n := 80) (r := (423 + b)) (pc := 52) (by decide) (Or.inr (Or.inr rfl)) rfl (rw_step.inb hP.2.2.2.2.1 hb80) (rw_step.at hP.2.2.2.2.1 hb80) (rw_step.2.2.2 _ hb80).2.1 (fm_dec dtX11_readsStep 28 rfl) ?_
  refine pv_astoren (pc := 53) (n := 2) 2 rfl (by decide) rfl (fm_dec dtX11_readsStep 29 rfl) ?_
  dsimp only [List.set_cons_zero, List.set_cons_succ]
  refine pv_aloadn (pc := 54) (n := 0) 0 rfl rfl (fm_dec dtX11_readsStep 30 rfl) ?_
  refine pv_dup (pc := 55) rfl (fm_dec dtX11_readsStep 31 rfl) ?_
  refine pv_getI (k := 0) (j := 26) (ci := 11) (pc := 56) pfl_X11_250 (by decide) rfl (by decide) (fm_dec dtX11_readsStep 32 rfl) ?_
  refine pv_iconst (pc := 59) (v := 1) (by decide) (fm_dec dtX11_readsStep 33 rfl) ?_
  refine pv_iadd (pc := 60) (fm_dec dtX11_readsStep 34 rfl) ?_
  refine pv_putI (k := 0) (j := 26) (ci := 11) (pc := 61) pfl_X11_250 (by decide) rfl (by decide) (fm_dec dtX11_readsStep 35 rfl) ?_
  refine pv_aloadn (pc := 64) (n := 2) 2 rfl rfl (fm_dec dtX11_readsStep 36 rfl) ?_
  refine pv_iconst (pc := 65) (v := 0) (by decide) (fm_dec dtX11_readsStep 37 rfl) ?_
  refine pv_iloadn (pc := 66) (n := 1) 1 rfl rfl (fm_dec dtX11_readsStep 38 rfl) ?_
  refine pv_iast (k := (423 + b)) (n := 3) (pc := 67) (rw_step.2.2.2 _ hb80).2.2.1 (rw_step.2.2.2 _ hb80).2.2.2.1 (rw_step.2.2.2 _ hb80).2.2.2.2 (fm_inl (by decide)) (fm_dec dtX11_readsStep 39 rfl) ?_
  refine pv_iloadn (pc := 68) (n := 1) 1 rfl rfl (fm_dec dtX11_readsStep 40 rfl) ?_
  refine pv_iconst (pc := 69) (v := 3) (by decide) (fm_dec dtX11_readsStep 41 rfl) ?_
  refine pv_icmp_ge (pc := 70) 89 (by decide) (fm_dec dtX11_readsStep 42 rfl) (fun hc70 => by exfalso; revert hc70; decide) (fun _ => ?_)
  refine pv_aloadn (pc := 73) (n := 2) 2 rfl rfl (fm_dec dtX11_readsStep 43 rfl) ?_
  refine pv_iconst (pc := 74) (v := 1) (by decide) (fm_dec dtX11_readsStep 44 rfl) ?_
  refine pv_aloadn (pc := 75) (n := 0) 0 rfl rfl (fm_dec dtX11_readsStep 45 rfl) ?_
  refine pv_iconst (pc := 76) (v := 0) (by decide) (fm_dec dtX11_readsStep 46 rfl) ?_
  refine pv_aloadn (pc := 77) (n := 0) 0 rfl rfl (fm_dec dtX11_readsStep 47 rfl) ?_
  refine pv_getR (k := 0) (j := 12) (ci := 11) (pc := 78) 4 rfl (by decide) pfl_X11_23 (by decide) rfl (by decide) (fm_dec dtX11_readsStep 48 rfl) ?_
  refine pv_iconst (pc := 81) (v := 0) (by decide) (fm_dec dtX11_readsStep 49 rfl) ?_
  refine pv_iald (k := 4) (n := 6) (pc := 82) (by decide) rfl rfl (fm_inl (by decide)) (fm_dec dtX11_readsStep 50 rfl) ?_
  refine pv_iconst (pc := 83) (v := 1) (by decide) (fm_dec dtX11_readsStep 51 rfl) ?_
  refine pv_isub (pc := 84) (fm_dec dtX11_readsStep 52 rfl) ?_
  refine pv_invV2 (k := 0) (d' := 2) (pc := 85) pcv_X11_163 (by decide) rfl (Nat.le_of_ble_eq_true rfl) (by omega) (fm_dec dtX11_readsStep 53 rfl) ?_
  refine r_num (M := rsM M x40 2 b) (tx := tx) (n := n) (p := sp tW tx a) 0 ((l : Int) - 1) ⟨by decide, (by have h9 : (rsM M x40 2 b).1 4 0 = M.1 4 0 := (by unfold rsM; rw [fmI_k _ _ (by omega), fmI_k _ _ (by decide), fmI_k _ _ (by decide)]); exact (congrArg (fun y => (y - 1 : Int32).toInt) h9).trans (lh_hi hP.2.2.2.2.2.2.2.1 hP.2.2.2.2.2.2.2.2)), (by have := hP.2.2.2.2.2.2.2.2; omega)⟩ (rsM_S hP hx40 hw40).1 (rsM_S hP hx40 hw40).2 (fun M85 v85 q85 w85 e85 hw85 k85 => ?_) (fun Mb kb ab eb hB => ?_)  
  · refine pv_then1 ?_
    refine pv_iast (k := (423 + b)) (n := 3) (pc := 88) (rw_step.2.2.2 _ hb80).2.2.1 (rw_step.2.2.2 _ hb80).2.2.2.1 (rw_step.2.2.2 _ hb80).2.2.2.2 (fm_inl (by decide)) (fm_dec dtX11_readsStep 54 rfl) ?_
    refine pv_iloadn (pc := 89) (n := 1) 1 rfl rfl (fm_dec dtX11_readsStep 55 rfl) ?_
    refine pv_iconst (pc := 90) (v := 4) (by decide) (fm_dec dtX11_readsStep 56 rfl) ?_
    refine pv_icmp_ne (pc := 91) 161 (by decide) (fm_dec dtX11_readsStep 57 rfl) (fun _ => ?_) (fun hc91 => by exfalso; revert hc91; decide)
    refine pv_aloadn (pc := 161) (n := 2) 2 rfl rfl (fm_dec dtX11_readsStep 93 rfl) ?_
    refine pv_iconst (pc := 162) (v := 2) (by decide) (fm_dec dtX11_readsStep 94 rfl) ?_
    refine pv_aloadn (pc := 163) (n := 0) 0 rfl rfl (fm_dec dtX11_readsStep 95 rfl) ?_
    refine pv_getI (k := 0) (j := 26) (ci := 11) (pc := 164) pfl_X11_250 (by decide) rfl (by decide) (fm_dec dtX11_readsStep 96 rfl) ?_
    refine pv_iast (k := (423 + b)) (n := 3) (pc := 167) (rw_step.2.2.2 _ hb80).2.2.1 (rw_step.2.2.2 _ hb80).2.2.2.1 (rw_step.2.2.2 _ hb80).2.2.2.2 (fm_inl (by decide)) (fm_dec dtX11_readsStep 97 rfl) ?_
    refine pv_aloadn (pc := 168) (n := 0) 0 rfl rfl (fm_dec dtX11_readsStep 98 rfl) ?_
    refine pv_bipush (pc := 169) (v := 59) (by decide) (fm_dec dtX11_readsStep 99 rfl) ?_
    refine pv_invV1 (k := 0) (d' := 2) (pc := 171) pcv_X11_173 (by decide) rfl (Nat.le_of_ble_eq_true rfl) (by omega) (fm_dec dtX11_readsStep 100 rfl) ?_
    refine r_sign (tx := tx) (n := n) (p := q85) 59 ⟨by decide, by decide⟩ (by (repeat with_reducible refine rS.row ?_ ⟨by omega, by omega⟩); exact k85.1) (by (repeat with_reducible refine f0.row ?_ (by omega)); exact k85.2.1) (fun M171 q171 e171 k171 => ?_) (fun Mb kb ab eb hB => ?_)  
    · refine pv_then0 ?_
      exact pv_return (pc := 174) rfl (fm_dec dtX11_readsStep 101 rfl) (hok _ _ _ (by simp only [spSi, spBind, e85, e171]) (rs_one (k := 2) hP (by decide) k85.2.2 k171.2.2 hw85 k171.1 k171.2.1))
    · refine pv_then0 ?_
      have hB9 := srBad.of ((((rsM_fr hb80).rd k85.2.2).row ⟨Nat.le_refl _, by omega⟩).row ⟨Nat.le_refl _, by omega⟩) hB
      exact pv_return (pc := 174) rfl (fm_dec dtX11_readsStep 101 rfl) (hbad _ kb ab (by simp only [spSi, spBind, e85, eb]) hB9)
  · refine pv_then1 ?_
    have hB9 := srBad.of (rsM_fr hb80) hB
    refine pv_iast (k := (423 + b)) (n := 3) (pc := 88) (rw_step.2.2.2 _ hb80).2.2.1 (rw_step.2.2.2 _ hb80).2.2.2.1 (rw_step.2.2.2 _ hb80).2.2.2.2 (fm_inl (by decide)) (fm_dec dtX11_readsStep 54 rfl) ?_
    refine pv_iloadn (pc := 89) (n := 1) 1 rfl rfl (fm_dec dtX11_readsStep 55 rfl) ?_
    refine pv_iconst (pc := 90) (v := 4) (by decide) (fm_dec dtX11_readsStep 56 rfl) ?_
    refine pv_icmp_ne (pc := 91) 161 (by decide) (fm_dec dtX11_readsStep 57 rfl) (fun _ => ?_) (fun hc91 => by exfalso; revert hc91; decide)
    refine pv_aloadn (pc := 161) (n := 2) 2 rfl rfl (fm_dec dtX11_readsStep 93 rfl) ?_
    refine pv_iconst (pc := 162) (v := 2) (by decide) (fm_dec dtX11_readsStep 94 rfl) ?_
    refine pv_aloadn (pc := 163) (n := 0) 0 rfl rfl (fm_dec dtX11_readsStep 95 rfl) ?_
    refine pv_getI (k := 0) (j := 26) (ci := 11) (pc := 164) pfl_X11_250 (by decide) rfl (by decide) (fm_dec dtX11_readsStep 96 rfl) ?_
    refine pv_iast (k := (423 + b)) (n := 3) (pc := 167) (rw_step.2.2.2 _ hb80).2.2.1 (rw_step.2.2.2 _ hb80).2.2.2.1 (rw_step.2.2.2 _ hb80).2.2.2.2 (fm_inl (by decide)) (fm_dec dtX11_readsStep 97 rfl) ?_
    refine pv_aloadn (pc := 168) (n := 0) 0 rfl rfl (fm_dec dtX11_readsStep 98 rfl) ?_
    refine pv_bipush (pc := 169) (v := 59) (by decide) (fm_dec dtX11_readsStep 99 rfl) ?_
    refine pv_invV1 (k := 0) (d' := 2) (pc := 171) pcv_X11_173 (by decide) rfl (Nat.le_of_ble_eq_true rfl) (by omega) (fm_dec dtX11_readsStep 100 rfl) ?_
    refine c_sign1 (srBad.nz (M := M) (tx := tx) (n := n) (k := kb) (a := ab) (b := b) (by (repeat with_reducible refine srBad.row ⟨by omega, by omega⟩ ?_); exact hB9)) ?_
    refine pv_then0 ?_
    exact pv_return (pc := 174) rfl (fm_dec dtX11_readsStep 101 rfl) (hbad _ kb ab (by simp only [spSi, spBind, eb]) (by (repeat with_reducible refine srBad.row ⟨by omega, by omega⟩ ?_); exact hB9))
set_option maxRecDepth 20000 in
theorem rs5_3 {Q : fmR → fmM → Prop} {M : fmM} {tx : tX} {n a o b l : Nat} {v2 : Option Value} (hP : srPre M tx n a o b l) (hok : ∀ (M' : fmM) (ss : tS) (q' : Nat), spWk tx b (sp tW tx a) = .inr (ss, q') → srOk M M' tx n q' b ss → Q (.inl none) M') (hbad : ∀ (M' : fmM) (k a' : Nat), spWk tx b (sp tW tx a) = .inl (k, a') → srBad M M' tx n k a' b → Q (.inl none) M') : pvEv Tm (5 + (6 - o)) qX11_readsStep 5 [some (.ref 0), some (.int 3), v2] [] M Q := by
  refine pv_iloadn (pc := 5) (n := 1) 1 rfl rfl (fm_dec dtX11_readsStep 3 rfl) ?_
  refine pv_iconst (pc := 6) (v := (-1)) (by decide) (fm_dec dtX11_readsStep 4 rfl) ?_
  refine pv_icmp_ne (pc := 7) 19 (by decide) (fm_dec dtX11_readsStep 5 rfl) (fun _ => ?_) (fun hc7 => by exfalso; revert hc7; decide)
  refine pv_iloadn (pc := 19) (n := 1) 1 rfl rfl (fm_dec dtX11_readsStep 11 rfl) ?_
  refine pv_iconst (pc := 20) (v := 4) (by decide) (fm_dec dtX11_readsStep 12 rfl) ?_
  refine pv_icmp_ne (pc := 21) 32 (by decide) (fm_dec dtX11_readsStep 13 rfl) (fun _ => ?_) (fun hc21 => by exfalso; revert hc21; decide)
  refine pv_aloadn (pc := 32) (n := 0) 0 rfl rfl (fm_dec dtX11_readsStep 18 rfl) ?_
  refine pv_getI (k := 0) (j := 5) (ci := 11) (pc := 33) pfl_X11_117 (by decide) rfl (by decide) (fm_dec dtX11_readsStep 19 rfl) ?_
  refine pv_if_eq (pc := 36) 40 (by decide) (fm_dec dtX11_readsStep 20 rfl) (fun _ => ?_) (fun hc36 => by exfalso; exact hc36 hP.2.1)
  refine pv_aloadn (pc := 40) (n := 0) 0 rfl rfl (fm_dec dtX11_readsStep 22 rfl) ?_
  refine pv_invV0 (k := 0) (d' := 1) (pc := 41) pcv_X11_154 (by decide) rfl (Nat.le_of_ble_eq_true rfl) (by omega) (fm_dec dtX11_readsStep 23 rfl) ?_
  refine c_skipWord hP.1 (fun x40 hx40 => ?_)
  refine pv_then0 ?_
  have hb80 := hP.b
  have hw40 := sp_le (p := a) tW_1 hP.1.2.2.2.1 hP.1.2.2.1
  refine pv_aloadn (pc := 44) (n := 0) 0 rfl rfl (fm_dec dtX11_readsStep 24 rfl) ?_
  refine pv_getR (k := 0) (j := 25) (ci := 11) (pc := 45) 24 rfl (by decide) pfl_X11_58 (by decide) rfl (by decide) (fm_dec dtX11_readsStep 25 rfl) ?_
  refine pv_aloadn (pc := 48) (n := 0) 0 rfl rfl (fm_dec dtX11_readsStep 26 rfl) ?_
  refine pv_getI (k := 0) (j := 26) (ci := 11) (pc := 49) pfl_X11_250 (by decide) rfl (by decide) (fm_dec dtX11_readsStep 27 rfl) ?_
  refine pv_aald (k := 24) (n := 80) (r := (423 + b)) (pc := 52) (by decide) (Or.inr (Or.inr rfl)) rfl (rw_step.inb hP.2.2.2.2.1 hb80) (rw_step.at hP.2.2.2.2.1 hb80) (rw_step.2.2.2 _ hb80).2.1 (fm_dec dtX11_readsStep 28 rfl) ?_
  refine pv_astoren (pc := 53) (n := 2) 2 rfl (by decide) rfl (fm_dec dtX11_readsStep 29 rfl) ?_
  dsimp only [List.set_cons_zero, List.set_cons_succ]
  refine pv_aloadn (pc := 54) (n := 0) 0 rfl rfl (fm_dec dtX11_readsStep 30 rfl) ?_
  refine pv_dup (pc := 55) rfl (fm_dec dtX11_readsStep 31 rfl) ?_
  refine pv_getI (k := 0) (j := 26) (ci := 11) (pc := 56) pfl_X11_250 (by decide) rfl (by decide) (fm_dec dtX11_readsStep 32 rfl) ?_
  refine pv_iconst (pc := 59) (v := 1) (by decide) (fm_dec dtX11_readsStep 33 rfl) ?_
  refine pv_iadd (pc := 60) (fm_dec dtX11_readsStep 34 rfl) ?_
  refine pv_putI (k := 0) (j := 26) (ci := 11) (pc := 61) pfl_X11_250 (by decide) rfl (by decide) (fm_dec dtX11_readsStep 35 rfl) ?_
  refine pv_aloadn (pc := 64) (n := 2) 2 rfl rfl (fm_dec dtX11_readsStep 36 rfl) ?_
  refine pv_iconst (pc := 65) (v := 0) (by decide) (fm_dec dtX11_readsStep 37 rfl) ?_
  refine pv_iloadn (pc := 66) (n := 1) 1 rfl rfl (fm_dec dtX11_readsStep 38 rfl) ?_
  refine pv_iast (k := (423 + b)) (n := 3) (pc := 67) (rw_step.2.2.2 _ hb80).2.2.1 (rw_step.2.2.2 _ hb80).2.2.2.1 (rw_step.2.2.2 _ hb80).2.2.2.2 (fm_inl (by decide)) (fm_dec dtX11_readsStep 39 rfl) ?_
  refine pv_iloadn (pc := 68) (n := 1) 1 rfl rfl (fm_dec dtX11_readsStep 40 rfl) ?_
  refine pv_iconst (pc := 69) (v := 3) (by decide) (fm_dec dtX11_readsStep 41 rfl) ?_
  refine pv_icmp_ge (pc := 70) 89 (by decide) (fm_dec dtX11_readsStep 42 rfl) (fun _ => ?_) (fun hc70 => by exfalso; revert hc70; decide)
  refine pv_iloadn (pc := 89) (n := 1) 1 rfl rfl (fm_dec dtX11_readsStep 55 rfl) ?_
  refine pv_iconst (pc := 90) (v := 4) (by decide) (fm_dec dtX11_readsStep 56 rfl) ?_
  refine pv_icmp_ne (pc := 91) 161 (by decide) (fm_dec dtX11_readsStep 57 rfl) (fun _ => ?_) (fun hc91 => by exfalso; revert hc91; decide)
  refine pv_aloadn (pc := 161) (n := 2) 2 rfl rfl (fm_dec dtX11_readsStep 93 rfl) ?_
  refine pv_iconst (pc := 162) (v := 2) (by decide) (fm_dec dtX11_readsStep 94 rfl) ?_
  refine pv_aloadn (pc := 163) (n := 0) 0 rfl rfl (fm_dec dtX11_readsStep 95 rfl) ?_
  refine pv_getI (k := 0) (j := 26) (ci := 11) (pc := 164) pfl_X11_250 (by decide) rfl (by decide) (fm_dec dtX11_readsStep 96 rfl) ?_
  refine pv_iast (k := (423 + b)) (n := 3) (pc := 167) (rw_step.2.2.2 _ hb80).2.2.1 (rw_step.2.2.2 _ hb80).2.2.2.1 (rw_step.2.2.2 _ hb80).2.2.2.2 (fm_inl (by decide)) (fm_dec dtX11_readsStep 97 rfl) ?_
  refine pv_aloadn (pc := 168) (n := 0) 0 rfl rfl (fm_dec dtX11_readsStep 98 rfl) ?_
  refine pv_bipush (pc := 169) (v := 59) (by decide) (fm_dec dtX11_readsStep 99 rfl) ?_
  refine pv_invV1 (k := 0) (d' := 2) (pc := 171) pcv_X11_173 (by decide) rfl (Nat.le_of_ble_eq_true rfl) (by omega) (fm_dec dtX11_readsStep 100 rfl) ?_
  refine r_sign (M := fmI (rsM M x40 3 b) (423 + b) 2 ((rsM M x40 3 b).1 0 26)) (tx := tx) (n := n) (p := sp tW tx a) 59 ⟨by decide, by decide⟩ ((rsM_S hP hx40 hw40).1.row ⟨by omega, by omega⟩) (f0.row (rsM_S hP hx40 hw40).2 (by omega)) (fun M171 q171 e171 k171 => ?_) (fun Mb kb ab eb hB => ?_)  
  · refine pv_then0 ?_
    exact pv_return (pc := 174) rfl (fm_dec dtX11_readsStep 101 rfl) (hok _ _ _ (by simp only [spWk, spBind, e171]) (rs_wk hP k171.2.2 k171.1 k171.2.1))
  · refine pv_then0 ?_
    have hB9 := srBad.of ((rsM_fr hb80).row ⟨Nat.le_refl _, by omega⟩) hB
    exact pv_return (pc := 174) rfl (fm_dec dtX11_readsStep 101 rfl) (hbad _ kb ab (by simp only [spWk, spBind, eb]) hB9)
set_option maxRecDepth 20000 in
theorem rs5_n {Q : fmR → fmM → Prop} {M : fmM} {tx : tX} {n a o b l : Nat} {v2 : Option Value} (hP : srPre M tx n a o b l) (hbad : ∀ M' : fmM, srBad M M' tx n 1 a b → Q (.inl none) M') : pvEv Tm (5 + (6 - o)) qX11_readsStep 5 [some (.ref 0), some (.int (-1)), v2] [] M Q := by
  refine pv_iloadn (pc := 5) (n := 1) 1 rfl rfl (fm_dec dtX11_readsStep 3 rfl) ?_
  refine pv_iconst (pc := 6) (v := (-1)) (by decide) (fm_dec dtX11_readsStep 4 rfl) ?_
  refine pv_icmp_ne (pc := 7) 19 (by decide) (fm_dec dtX11_readsStep 5 rfl) (fun hc7 => by exfalso; revert hc7; decide) (fun _ => ?_)
  refine pv_aloadn (pc := 10) (n := 0) 0 rfl rfl (fm_dec dtX11_readsStep 6 rfl) ?_
  refine pv_iconst (pc := 11) (v := 1) (by decide) (fm_dec dtX11_readsStep 7 rfl) ?_
  refine pv_aloadn (pc := 12) (n := 0) 0 rfl rfl (fm_dec dtX11_readsStep 8 rfl) ?_
  refine pv_getI (k := 0) (j := 4) (ci := 11) (pc := 13) pfl_X11_110 (by decide) rfl (by decide) (fm_dec dtX11_readsStep 9 rfl) ?_
  refine pv_invV2 (k := 0) (d' := 0) (pc := 16) pcv_X11_130 (by decide) rfl (Nat.le_of_ble_eq_true rfl) (by omega) (fm_dec dtX11_readsStep 10 rfl) ?_
  refine c_wrongAt (fun _ => ?_) (fun h9 => absurd hP.2.1 h9) 
  refine pv_then0 ?_
  refine pv_iloadn (pc := 19) (n := 1) 1 rfl rfl (fm_dec dtX11_readsStep 11 rfl) ?_
  refine pv_iconst (pc := 20) (v := 4) (by decide) (fm_dec dtX11_readsStep 12 rfl) ?_
  refine pv_icmp_ne (pc := 21) 32 (by decide) (fm_dec dtX11_readsStep 13 rfl) (fun _ => ?_) (fun hc21 => by exfalso; revert hc21; decide)
  refine pv_aloadn (pc := 32) (n := 0) 0 rfl rfl (fm_dec dtX11_readsStep 18 rfl) ?_
  refine pv_getI (k := 0) (j := 5) (ci := 11) (pc := 33) pfl_X11_117 (by decide) rfl (by decide) (fm_dec dtX11_readsStep 19 rfl) ?_
  refine pv_if_eq (pc := 36) 40 (by decide) (fm_dec dtX11_readsStep 20 rfl) (fun hc36 => by exfalso; exact absurd (show (1 : Int32) = 0 from hc36) (by decide)) (fun _ => ?_)
  exact pv_return (pc := 39) rfl (fm_dec dtX11_readsStep 21 rfl) (hbad _ (srBad.of (srFr.refl b M) (rdBad.at0 hP.1 (by decide) hP.1.2.1 (by decide))))
theorem spSt_93 {tx : tX} {l f o b p : Nat} (h : tx p = 93) : spSt tx l (f + 1) 1 o b p = .inr ([], p) := if_pos h
theorem spSt_nx {tx : tX} {l f o b p : Nat} (h : ¬ tx p = 93) : spSt tx l (f + 1) 1 o b p = spBind (spSt tx l f 0 o b p) fun ss q => spBind (spSt tx l f 1 o (b + ss.length) (sk tx q)) fun ts q => .inr (ss ++ ts, q) := if_neg h
theorem srOk.nil {M : fmM} {tx : tX} {n p o b l : Nat} (h : srPre M tx n p o b l) : srOk M M tx n p b [] := ⟨h.1, h.2.1, rfl, h.2.2.2.2.1, fun i s hi => (by cases hi), srFr.refl b M⟩
theorem srOk.app {M M1 M2 M3 : fmM} {tx : tX} {n q1 q2 b : Nat} {ss ts : tS} (h1 : srOk M M1 tx n q1 b ss) (hr : rdFr M1 M2) (h8 : M2.1 0 8 = M1.1 0 8) (h2 : srOk M2 M3 tx n q2 (b + ss.length) ts) : srOk M M3 tx n q2 b (ss ++ ts) := by
  obtain ⟨a1, a2, a3, a4, a5, a6⟩ := h1
  obtain ⟨b1, b2, b3, b4, b5, b6⟩ := h2
  refine ⟨b1, b2, (b3.trans h8).trans a3, ?_, fun i s hi => ?_, (a6.rd hr).trans b6 (by omega)⟩
  · rw [b4, List.length_append]
    congr 1
    omega
  · by_cases e : i < ss.length
    · rw [List.getElem?_append_left e] at hi
      have e9 : ∀ j, M3.1 (423 + b + i) j = M1.1 (423 + b + i) j := fun j => (b6.1 _ j (by omega) (by omega)).trans (hr.1 _ j (by omega))
      rw [e9, e9, e9]
      exact a5 i s hi
    · rw [List.getElem?_append_right (by omega)] at hi
      have h9 := b5 (i - ss.length) s hi
      rw [show 423 + (b + ss.length) + (i - ss.length) = 423 + b + i by omega] at h9
      exact h9
theorem srPre.next {M M1 M2 : fmM} {tx : tX} {n p q o b l : Nat} {ss : tS} (h : srPre M tx n p o b l) (h1 : srOk M M1 tx n q b ss) (hq : p + 2 * ss.length ≤ q) (h2 : rdOk M1 M2 tx n (sk tx q)) : srPre M2 tx n (sk tx q) o (b + ss.length) l := by
  obtain ⟨a1, a2, a3, a4, a5, a6, a7, a8, a9⟩ := h
  have g : q ≤ sk tx q := sp_ge q
  refine ⟨h2.1, h2.2.1, ?_, a4, ?_, by omega, a7, ?_, a9⟩
  · rw [h2.2.2.2.1 8 (by decide) (by decide) (by decide), h1.2.2.1]
    exact a3
  · rw [h2.2.2.2.1 26 (by decide) (by decide) (by decide)]
    exact h1.2.2.2.1
  · rw [h2.2.2.1 4 0 (by decide), h1.2.2.2.2.2.1 4 0 (by decide) (by omega)]
    exact a8
def srG (tx : tX) (n l f : Nat) : Prop := ∀ (o b p : Nat) (M : fmM) (Q : fmR → fmM → Prop), srPre M tx n p o b l → ¬ spSt tx l f 0 o b p = .inl (9, 0) → (∀ (M' : fmM) (ss : tS) (q : Nat), spSt tx l f 0 o b p = .inr (ss, q) → srOk M M' tx n q b ss → Q (.inl none) M') → (∀ (M' : fmM) (k a : Nat), spSt tx l f 0 o b p = .inl (k, a) → srBad M M' tx n k a b → Q (.inl none) M') → pvGood Tm (5 + (6 - o)) qX11_readsStep [.ref 0] M Q
def srLp (tx : tX) (n l f : Nat) : Prop := ∀ (o b p r0 : Nat) (M : fmM) (Q : fmR → fmM → Prop), o < 6 → srPre M tx n p (o + 1) b l → ¬ spSt tx l f 1 (o + 1) b p = .inl (9, 0) → (∀ (M' : fmM) (ss : tS) (q : Nat), spSt tx l f 1 (o + 1) b p = .inr (ss, q) → srOk M M' tx n q b ss → pvEv Tm (5 + (6 - o)) qX11_readsStep 145 [some (.ref 0), some (.int 4), some (.ref r0)] [] M' Q) → (∀ (M' : fmM) (k a : Nat), spSt tx l f 1 (o + 1) b p = .inl (k, a) → srBad M M' tx n k a b → pvEv Tm (5 + (6 - o)) qX11_readsStep 145 [some (.ref 0), some (.int 4), some (.ref r0)] [] M' Q) → pvEv Tm (5 + (6 - o)) qX11_readsStep 114 [some (.ref 0), some (.int 4), some (.ref r0)] [] M Q
set_option maxRecDepth 20000 in
theorem rs_o1 {Q : fmR → fmM → Prop} {M : fmM} {o r0 : Nat} (hf : ¬ M.1 0 5 = 0) (hq : pvEv Tm (5 + (6 - o)) qX11_readsStep 145 [some (.ref 0), some (.int 4), some (.ref r0)] [] M Q) : pvEv Tm (5 + (6 - o)) qX11_readsStep 114 [some (.ref 0), some (.int 4), some (.ref r0)] [] M Q := by
  refine pv_aloadn (pc := 114) (n := 0) 0 rfl rfl (fm_dec dtX11_readsStep 70 rfl) ?_
  refine pv_getI (k := 0) (j := 5) (ci := 11) (pc := 115) pfl_X11_117 (by decide) rfl (by decide) (fm_dec dtX11_readsStep 71 rfl) ?_
  refine pv_if_ne (pc := 118) 145 (by decide) (fm_dec dtX11_readsStep 72 rfl) (fun _ => ?_) (fun hc118 => by exfalso; exact hf hc118)
  exact hq
set_option maxRecDepth 20000 in
theorem rs_loop {tx : tX} {n l f : Nat} (ihG : srG tx n l f) (ihL : srLp tx n l f) : srLp tx n l (f + 1) := by
  intro o b p r0 M Q ho hP hne hok hbad
  refine pv_aloadn (pc := 114) (n := 0) 0 rfl rfl (fm_dec dtX11_readsStep 70 rfl) ?_
  refine pv_getI (k := 0) (j := 5) (ci := 11) (pc := 115) pfl_X11_117 (by decide) rfl (by decide) (fm_dec dtX11_readsStep 71 rfl) ?_
  refine pv_if_ne (pc := 118) 145 (by decide) (fm_dec dtX11_readsStep 72 rfl) (fun hc118 => by exfalso; exact hc118 hP.2.1) (fun _ => ?_)
  refine pv_aloadn (pc := 121) (n := 0) 0 rfl rfl (fm_dec dtX11_readsStep 73 rfl) ?_
  refine pv_aloadn (pc := 122) (n := 0) 0 rfl rfl (fm_dec dtX11_readsStep 74 rfl) ?_
  refine pv_getI (k := 0) (j := 4) (ci := 11) (pc := 123) pfl_X11_110 (by decide) rfl (by decide) (fm_dec dtX11_readsStep 75 rfl) ?_
  refine pv_invV1 (k := 0) (d' := 0) (pc := 126) pcv_X11_113 (by decide) rfl (Nat.le_of_ble_eq_true rfl) (by omega) (fm_dec dtX11_readsStep 76 rfl) ?_
  refine c_byteAt hP.1 p hP.1.2.1 (fun v126 hv126 => ?_)
  refine pv_then1 ?_
  refine pv_bipush (pc := 129) (v := 93) (by decide) (fm_dec dtX11_readsStep 77 rfl) ?_
  refine pv_icmp_eq (pc := 131) 145 (by decide) (fm_dec dtX11_readsStep 78 rfl) (fun hc131 => ?_) (fun hc131 => ?_)
  · exact hok M [] p (spSt_93 (by rw [← hv126, hc131]; decide)) (srOk.nil hP)
  · have h93 : ¬ tx p = 93 := fun h9 => hc131 (i32_ext (hv126.trans (h9.trans (by decide))))
    have eN := spSt_nx (l := l) (f := f) (o := o + 1) (b := b) h93
    have hne0 : ¬ spSt tx l f 0 (o + 1) b p = .inl (9, 0) := fun h9 => hne (by rw [eN, h9]; rfl)
    refine pv_aloadn (pc := 134) (n := 0) 0 rfl rfl (fm_dec dtX11_readsStep 79 rfl) ?_
    refine pv_invV0 (k := 0) (d' := (5 + (6 - (o + 1)))) (pc := 135) pcv_X11_253 (by decide) rfl (Nat.le_of_ble_eq_true rfl) (by omega) (fm_dec dtX11_readsStep 80 rfl) ?_
    refine ihG (o + 1) b p M _ hP hne0 (fun M135 ss q135 e135 k135 => ?_) (fun Mb kb ab eb hB => ?_)  
    · refine pv_then0 ?_
      refine pv_aloadn (pc := 138) (n := 0) 0 rfl rfl (fm_dec dtX11_readsStep 81 rfl) ?_
      refine pv_invV0 (k := 0) (d' := 1) (pc := 139) pcv_X11_123 (by decide) rfl (Nat.le_of_ble_eq_true rfl) (by omega) (fm_dec dtX11_readsStep 82 rfl) ?_
      refine r_blanks k135.1 k135.2.1 (fun M139 k139 => ?_)
      refine pv_then0 ?_
      refine pv_goto (pc := 142) 114 (by decide) (fm_dec dtX11_readsStep 83 rfl) ?_
      have hl := spSt_len hP.1.2.2.2.1 _ _ _ _ _ _ _ hP.1.2.2.1 e135
      have eB : spSt tx l (f + 1) 1 (o + 1) b p = spBind (spSt tx l f 1 (o + 1) (b + ss.length) (sk tx q135)) fun ts q => .inr (ss ++ ts, q) := (by rw [eN, e135]; rfl)
      refine ihL o (b + ss.length) (sk tx q135) r0 M139 Q ho (hP.next k135 hl.1 k139) (fun h9 => hne (by rw [eB, h9]; rfl)) (fun M' ts q e k => hok M' (ss ++ ts) q (by rw [eB, e]; rfl) (k135.app k139.2.2 (k139.2.2.2.1 8 (by decide) (by decide) (by decide)) k)) (fun M' k a e hb => hbad M' k a (by rw [eB, e]; rfl) ⟨hb.1, hb.2.1, hb.2.2.1, hb.2.2.2.1, (k135.2.2.2.2.2.rd k139.2.2).trans hb.2.2.2.2 (by omega)⟩)
    · refine pv_then0 ?_
      obtain ⟨qb, hSb⟩ := hB.1
      refine pv_aloadn (pc := 138) (n := 0) 0 rfl rfl (fm_dec dtX11_readsStep 81 rfl) ?_
      refine pv_invV0 (k := 0) (d' := 1) (pc := 139) pcv_X11_123 (by decide) rfl (Nat.le_of_ble_eq_true rfl) (by omega) (fm_dec dtX11_readsStep 82 rfl) ?_
      refine c_blanks hSb (fun x139 hx139 => ?_)
      refine pv_then0 ?_
      refine pv_goto (pc := 142) 114 (by decide) (fm_dec dtX11_readsStep 83 rfl) ?_
      exact rs_o1 (show ¬ (fmI Mb 0 4 x139).1 0 5 = 0 from hB.nz) (hbad _ kb ab (by rw [eN, eb]; rfl) ⟨⟨_, hSb.bl hx139⟩, hB.2.1, hB.2.2.1, hB.2.2.2.1, hB.2.2.2.2.c0 (Or.inl rfl)⟩)
set_option maxRecDepth 20000 in
theorem rs_t1 {Q : fmR → fmM → Prop} {M0 M : fmM} {tx : tX} {n kb ab b o : Nat} (hb80 : b < 80) (hB9 : srBad M0 M tx n kb ab b) (hq : ∀ M' : fmM, srBad M0 M' tx n kb ab b → Q (.inl none) M') : pvEv Tm (5 + (6 - o)) qX11_readsStep 145 [some (.ref 0), some (.int 4), some (.ref (423 + b))] [] M Q := by
  refine pv_aloadn (pc := 145) (n := 0) 0 rfl rfl (fm_dec dtX11_readsStep 84 rfl) ?_
  refine pv_bipush (pc := 146) (v := 93) (by decide) (fm_dec dtX11_readsStep 85 rfl) ?_
  refine pv_invV1 (k := 0) (d' := 2) (pc := 148) pcv_X11_173 (by decide) rfl (Nat.le_of_ble_eq_true rfl) (by omega) (fm_dec dtX11_readsStep 86 rfl) ?_
  refine c_sign1 (srBad.nz (M := M0) (tx := tx) (n := n) (k := kb) (a := ab) (b := b) hB9) ?_
  refine pv_then0 ?_
  refine pv_aloadn (pc := 151) (n := 0) 0 rfl rfl (fm_dec dtX11_readsStep 87 rfl) ?_
  refine pv_dup (pc := 152) rfl (fm_dec dtX11_readsStep 88 rfl) ?_
  refine pv_getI (k := 0) (j := 8) (ci := 11) (pc := 153) pfl_X11_160 (by decide) rfl (by decide) (fm_dec dtX11_readsStep 89 rfl) ?_
  refine pv_iconst (pc := 156) (v := 1) (by decide) (fm_dec dtX11_readsStep 90 rfl) ?_
  refine pv_isub (pc := 157) (fm_dec dtX11_readsStep 91 rfl) ?_
  refine pv_putI (k := 0) (j := 8) (ci := 11) (pc := 158) pfl_X11_160 (by decide) rfl (by decide) (fm_dec dtX11_readsStep 92 rfl) ?_
  refine pv_aloadn (pc := 161) (n := 2) 2 rfl rfl (fm_dec dtX11_readsStep 93 rfl) ?_
  refine pv_iconst (pc := 162) (v := 2) (by decide) (fm_dec dtX11_readsStep 94 rfl) ?_
  refine pv_aloadn (pc := 163) (n := 0) 0 rfl rfl (fm_dec dtX11_readsStep 95 rfl) ?_
  refine pv_getI (k := 0) (j := 26) (ci := 11) (pc := 164) pfl_X11_250 (by decide) rfl (by decide) (fm_dec dtX11_readsStep 96 rfl) ?_
  refine pv_iast (k := (423 + b)) (n := 3) (pc := 167) (rw_step.2.2.2 _ hb80).2.2.1 (rw_step.2.2.2 _ hb80).2.2.2.1 (rw_step.2.2.2 _ hb80).2.2.2.2 (fm_inl (by decide)) (fm_dec dtX11_readsStep 97 rfl) ?_
  refine pv_aloadn (pc := 168) (n := 0) 0 rfl rfl (fm_dec dtX11_readsStep 98 rfl) ?_
  refine pv_bipush (pc := 169) (v := 59) (by decide) (fm_dec dtX11_readsStep 99 rfl) ?_
  refine pv_invV1 (k := 0) (d' := 2) (pc := 171) pcv_X11_173 (by decide) rfl (Nat.le_of_ble_eq_true rfl) (by omega) (fm_dec dtX11_readsStep 100 rfl) ?_
  refine c_sign1 (srBad.nz (M := M0) (tx := tx) (n := n) (k := kb) (a := ab) (b := b) (srBad.row ⟨by omega, by omega⟩ hB9.c8)) ?_
  refine pv_then0 ?_
  exact pv_return (pc := 174) rfl (fm_dec dtX11_readsStep 101 rfl) (hq _ (srBad.row ⟨by omega, by omega⟩ hB9.c8))
/-- again, all of it, is read -/
theorem rs_ag {M M100 M107 M111 M145 M148 M171 : fmM} {x w : Int32} {tx : tX} {n q q' o b l v : Nat} {ss : tS} (hb : b < 80) (f1 : rdFr (rsM (fmI M 0 8 (M.1 0 8 + 1)) x 4 b) M100) (f2 : rdFr (fmI M100 (423 + b) 1 w) M107) (f3 : rdFr M107 M111) (hk : srOk M111 M145 tx n q (b + 1) ss) (f4 : rdFr M145 M148) (f5 : rdFr (fmI (fmI M148 0 8 (M148.1 0 8 - 1)) (423 + b) 2 ((fmI M148 0 8 (M148.1 0 8 - 1)).1 0 26)) M171) (hw : w.toInt = v) (hS : rS M171 tx n q') (hf : M171.1 0 5 = 0) : srOk M M171 tx n q' b ((4, v, b + 1 + ss.length) :: ss) := by
  obtain ⟨k1, k2, k3, k4, k5, k6⟩ := hk
  have g26 : (M148.1 0 26).toInt = ((b + 1 + ss.length : Nat) : Int) := by
    rw [f4.2.1 26 (by decide) (by decide) (by decide)]
    exact k4
  have e26 : (fmI M148 0 8 (M148.1 0 8 - 1)).1 0 26 = M148.1 0 26 := by rw [fmI_j _ _ (by decide)]
  have e8 : M148.1 0 8 = M.1 0 8 + 1 := by
    rw [f4.2.1 8 (by decide) (by decide) (by decide), k3, f3.2.1 8 (by decide) (by decide) (by decide), f2.2.1 8 (by decide) (by decide) (by decide), fmI_k _ _ (by omega), f1.2.1 8 (by decide) (by decide) (by decide)]
    unfold rsM
    rw [fmI_k _ _ (by omega), fmI_j _ _ (by decide), fmI_j _ _ (by decide), fmI_s]
  have r : ∀ k j, k ≠ 0 → k ≠ 423 + b → M171.1 k j = M145.1 k j := fun k j a c => by
    rw [f5.1 k j a, fmI_k _ _ c, fmI_k _ _ a, f4.1 k j a]
  have r0 : ∀ j, j ≠ 2 → M171.1 (423 + b) j = (fmI M100 (423 + b) 1 w).1 (423 + b) j := fun j a => by
    rw [f5.1 _ _ (by omega), fmI_j _ _ a, fmI_k _ _ (by omega), f4.1 _ _ (by omega), k6.1 _ _ (by omega) (by omega), f3.1 _ _ (by omega), f2.1 _ _ (by omega)]
  refine ⟨hS, hf, ?_, ?_, fun i s hi => ?_, ?_⟩
  · rw [f5.2.1 8 (by decide) (by decide) (by decide), fmI_k _ _ (by omega), fmI_s, e8]
    exact Int32.add_sub_cancel _ _
  · rw [f5.2.1 26 (by decide) (by decide) (by decide), fmI_k _ _ (by omega), e26, g26, List.length_cons]
    congr 1
    omega
  · cases i with
    | zero =>
      cases hi
      rw [show 423 + b + 0 = 423 + b from rfl]
      refine ⟨?_, fun _ => ?_, ?_⟩
      · rw [r0 0 (by decide), fmI_j _ _ (by decide), f1.1 _ _ (by omega)]
        unfold rsM
        rw [fmI_s]
        exact (show (4 : Int32).toInt = 4 by decide)
      · rw [r0 1 (by decide), fmI_s]
        exact hw
      · rw [f5.1 _ _ (by omega), fmI_s, e26]
        exact g26
    | succ i =>
      have h9 := k5 i s hi
      rw [show 423 + b + (i + 1) = 423 + (b + 1) + i by omega, r _ _ (by omega) (by omega), r _ _ (by omega) (by omega), r _ _ (by omega) (by omega)]
      exact h9
  · have h0 : srFr b M (rsM (fmI M 0 8 (M.1 0 8 + 1)) x 4 b) := ((srFr.refl b M).c0 (Or.inr (Or.inr (Or.inr (Or.inl rfl))))).trans (rsM_fr hb) (Nat.le_refl _)
    exact ((((((((h0.rd f1).row ⟨Nat.le_refl _, by omega⟩).rd f2).rd f3).trans k6 (by omega)).rd f4).c0 (Or.inr (Or.inr (Or.inr (Or.inl rfl))))).row ⟨Nat.le_refl _, by omega⟩).rd f5
set_option maxRecDepth 20000 in
theorem rs_t0 {Q : fmR → fmM → Prop} {M0 M1 M : fmM} {tx : tX} {n q b o : Nat} {ss : tS} (hb80 : b < 80) (h1 : srFr b M0 M1) (hk : srOk M1 M tx n q (b + 1) ss) (hok : ∀ (M148 M171 : fmM) (q148 q171 : Nat), spSign tx 93 q = .inr ((), q148) → rdFr M M148 → spSign tx 59 q148 = .inr ((), q171) → rdOk (fmI (fmI M148 0 8 (M148.1 0 8 - 1)) (423 + b) 2 ((fmI M148 0 8 (M148.1 0 8 - 1)).1 0 26)) M171 tx n q171 → Q (.inl none) M171) (hbad : ∀ (M' : fmM) (kb ab : Nat), (spSign tx 93 q = .inl (kb, ab) ∨ ∃ q148, spSign tx 93 q = .inr ((), q148) ∧ spSign tx 59 q148 = .inl (kb, ab)) → srBad M0 M' tx n kb ab b → Q (.inl none) M') : pvEv Tm (5 + (6 - o)) qX11_readsStep 145 [some (.ref 0), some (.int 4), some (.ref (423 + b))] [] M Q := by
  refine pv_aloadn (pc := 145) (n := 0) 0 rfl rfl (fm_dec dtX11_readsStep 84 rfl) ?_
  refine pv_bipush (pc := 146) (v := 93) (by decide) (fm_dec dtX11_readsStep 85 rfl) ?_
  refine pv_invV1 (k := 0) (d' := 2) (pc := 148) pcv_X11_173 (by decide) rfl (Nat.le_of_ble_eq_true rfl) (by omega) (fm_dec dtX11_readsStep 86 rfl) ?_
  refine r_sign (tx := tx) (n := n) (p := q) 93 ⟨by decide, by decide⟩ hk.1 hk.2.1 (fun M148 q148 e148 k148 => ?_) (fun Mb kb ab eb hB => ?_)  
  · refine pv_then0 ?_
    refine pv_aloadn (pc := 151) (n := 0) 0 rfl rfl (fm_dec dtX11_readsStep 87 rfl) ?_
    refine pv_dup (pc := 152) rfl (fm_dec dtX11_readsStep 88 rfl) ?_
    refine pv_getI (k := 0) (j := 8) (ci := 11) (pc := 153) pfl_X11_160 (by decide) rfl (by decide) (fm_dec dtX11_readsStep 89 rfl) ?_
    refine pv_iconst (pc := 156) (v := 1) (by decide) (fm_dec dtX11_readsStep 90 rfl) ?_
    refine pv_isub (pc := 157) (fm_dec dtX11_readsStep 91 rfl) ?_
    refine pv_putI (k := 0) (j := 8) (ci := 11) (pc := 158) pfl_X11_160 (by decide) rfl (by decide) (fm_dec dtX11_readsStep 92 rfl) ?_
    refine pv_aloadn (pc := 161) (n := 2) 2 rfl rfl (fm_dec dtX11_readsStep 93 rfl) ?_
    refine pv_iconst (pc := 162) (v := 2) (by decide) (fm_dec dtX11_readsStep 94 rfl) ?_
    refine pv_aloadn (pc := 163) (n := 0) 0 rfl rfl (fm_dec dtX11_readsStep 95 rfl) ?_
    refine pv_getI (k := 0) (j := 26) (ci := 11) (pc := 164) pfl_X11_250 (by decide) rfl (by decide) (fm_dec dtX11_readsStep 96 rfl) ?_
    refine pv_iast (k := (423 + b)) (n := 3) (pc := 167) (rw_step.2.2.2 _ hb80).2.2.1 (rw_step.2.2.2 _ hb80).2.2.2.1 (rw_step.2.2.2 _ hb80).2.2.2.2 (fm_inl (by decide)) (fm_dec dtX11_readsStep 97 rfl) ?_
    refine pv_aloadn (pc := 168) (n := 0) 0 rfl rfl (fm_dec dtX11_readsStep 98 rfl) ?_
    refine pv_bipush (pc := 169) (v := 59) (by decide) (fm_dec dtX11_readsStep 99 rfl) ?_
    refine pv_invV1 (k := 0) (d' := 2) (pc := 171) pcv_X11_173 (by decide) rfl (Nat.le_of_ble_eq_true rfl) (by omega) (fm_dec dtX11_readsStep 100 rfl) ?_
    refine r_sign (M := fmI (fmI M148 0 8 (M148.1 0 8 - 1)) (423 + b) 2 ((fmI M148 0 8 (M148.1 0 8 - 1)).1 0 26)) (tx := tx) (n := n) (p := q148) 59 ⟨by decide, by decide⟩ ((k148.1.of rfl rfl rfl : rS (fmI M148 0 8 (M148.1 0 8 - 1)) tx n q148).row ⟨by omega, by omega⟩) (f0.row (show (fmI M148 0 8 (M148.1 0 8 - 1)).1 0 5 = 0 from k148.2.1) (by omega)) (fun M171 q171 e171 k171 => ?_) (fun Mb kb ab eb hB => ?_)  
    · refine pv_then0 ?_
      exact pv_return (pc := 174) rfl (fm_dec dtX11_readsStep 101 rfl) (hok M148 M171 q148 q171 e148 k148.2.2 e171 k171)
    · refine pv_then0 ?_
      have hB9 := srBad.of ((((h1.trans hk.2.2.2.2.2 (by omega)).rd k148.2.2).c0 (Or.inr (Or.inr (Or.inr (Or.inl rfl))))).row ⟨Nat.le_refl _, by omega⟩) hB
      exact pv_return (pc := 174) rfl (fm_dec dtX11_readsStep 101 rfl) (hbad _ kb ab (Or.inr ⟨q148, e148, eb⟩) hB9)
  · refine pv_then0 ?_
    have hB9 := srBad.of (h1.trans hk.2.2.2.2.2 (by omega)) hB
    refine pv_aloadn (pc := 151) (n := 0) 0 rfl rfl (fm_dec dtX11_readsStep 87 rfl) ?_
    refine pv_dup (pc := 152) rfl (fm_dec dtX11_readsStep 88 rfl) ?_
    refine pv_getI (k := 0) (j := 8) (ci := 11) (pc := 153) pfl_X11_160 (by decide) rfl (by decide) (fm_dec dtX11_readsStep 89 rfl) ?_
    refine pv_iconst (pc := 156) (v := 1) (by decide) (fm_dec dtX11_readsStep 90 rfl) ?_
    refine pv_isub (pc := 157) (fm_dec dtX11_readsStep 91 rfl) ?_
    refine pv_putI (k := 0) (j := 8) (ci := 11) (pc := 158) pfl_X11_160 (by decide) rfl (by decide) (fm_dec dtX11_readsStep 92 rfl) ?_
    refine pv_aloadn (pc := 161) (n := 2) 2 rfl rfl (fm_dec dtX11_readsStep 93 rfl) ?_
    refine pv_iconst (pc := 162) (v := 2) (by decide) (fm_dec dtX11_readsStep 94 rfl) ?_
    refine pv_aloadn (pc := 163) (n := 0) 0 rfl rfl (fm_dec dtX11_readsStep 95 rfl) ?_
    refine pv_getI (k := 0) (j := 26) (ci := 11) (pc := 164) pfl_X11_250 (by decide) rfl (by decide) (fm_dec dtX11_readsStep 96 rfl) ?_
    refine pv_iast (k := (423 + b)) (n := 3) (pc := 167) (rw_step.2.2.2 _ hb80).2.2.1 (rw_step.2.2.2 _ hb80).2.2.2.1 (rw_step.2.2.2 _ hb80).2.2.2.2 (fm_inl (by decide)) (fm_dec dtX11_readsStep 97 rfl) ?_
    refine pv_aloadn (pc := 168) (n := 0) 0 rfl rfl (fm_dec dtX11_readsStep 98 rfl) ?_
    refine pv_bipush (pc := 169) (v := 59) (by decide) (fm_dec dtX11_readsStep 99 rfl) ?_
    refine pv_invV1 (k := 0) (d' := 2) (pc := 171) pcv_X11_173 (by decide) rfl (Nat.le_of_ble_eq_true rfl) (by omega) (fm_dec dtX11_readsStep 100 rfl) ?_
    refine c_sign1 (srBad.nz (M := M0) (tx := tx) (n := n) (k := kb) (a := ab) (b := b) (srBad.row ⟨by omega, by omega⟩ hB9.c8)) ?_
    refine pv_then0 ?_
    exact pv_return (pc := 174) rfl (fm_dec dtX11_readsStep 101 rfl) (hbad _ kb ab (Or.inl eb) (srBad.row ⟨by omega, by omega⟩ hB9.c8))
theorem srPre.in8 {M : fmM} {tx : tX} {n a o b l : Nat} (h : srPre M tx n a o b l) (ho : o < 6) : srPre (fmI M 0 8 (M.1 0 8 + 1)) tx n a (o + 1) b l := ⟨h.1.of rfl rfl rfl, h.2.1, i32_p1 h.2.2.1 (by omega), by omega, h.2.2.2.2.1, h.2.2.2.2.2.1, h.2.2.2.2.2.2.1, (by rw [fmI_k _ _ (by decide)]; exact h.2.2.2.2.2.2.2.1), h.2.2.2.2.2.2.2.2⟩
theorem srPre.in1 {M8 M100 M107 M111 : fmM} {x w : Int32} {tx : tX} {n a o b l q : Nat} (h : srPre M8 tx n a o b l) (ha : a + 2 ≤ q) (f1 : rdFr (rsM M8 x 4 b) M100) (f2 : rdFr (fmI M100 (423 + b) 1 w) M107) (k3 : rdOk M107 M111 tx n q) : srPre M111 tx n q o (b + 1) l := by
  have hb := h.b
  obtain ⟨a1, a2, a3, a4, a5, a6, a7, a8, a9⟩ := h
  have g : ∀ j, j ≠ 4 → j ≠ 5 → j ≠ 6 → M111.1 0 j = (rsM M8 x 4 b).1 0 j := fun j x1 x2 x3 => by
    rw [k3.2.2.2.1 j x1 x2 x3, f2.2.1 j x1 x2 x3, fmI_k _ _ (by omega), f1.2.1 j x1 x2 x3]
  refine ⟨k3.1, k3.2.1, ?_, a4, ?_, by omega, a7, ?_, a9⟩
  · rw [g 8 (by decide) (by decide) (by decide)]
    unfold rsM
    rw [fmI_k _ _ (by omega), fmI_j _ _ (by decide), fmI_j _ _ (by decide)]
    exact a3
  · rw [g 26 (by decide) (by decide) (by decide)]
    unfold rsM
    rw [fmI_k _ _ (by omega), fmI_s, fmI_j _ _ (by decide)]
    exact i32_p1 a5 (by omega)
  · rw [k3.2.2.1 4 0 (by decide), f2.1 4 0 (by decide), fmI_k _ _ (by omega), f1.1 4 0 (by decide)]
    unfold rsM
    rw [fmI_k _ _ (by omega), fmI_k _ _ (by decide), fmI_k _ _ (by decide)]
    exact a8
theorem rsM_fr8 {M : fmM} {x k : Int32} {b : Nat} (hb : b < 80) : srFr b M (rsM (fmI M 0 8 (M.1 0 8 + 1)) x k b) := ((srFr.refl b M).c0 (Or.inr (Or.inr (Or.inr (Or.inl rfl))))).trans (rsM_fr hb) (Nat.le_refl _)
theorem srBad.bl {M M1 : fmM} {tx : tX} {n k a b : Nat} {x : Int32} {q : Nat} (h : srBad M M1 tx n k a b) (hS : rS M1 tx n q) (hx : x.toInt = sk tx q) : srBad M (fmI M1 0 4 x) tx n k a b := ⟨⟨_, hS.bl hx⟩, h.2.1, h.2.2.1, h.2.2.2.1, h.2.2.2.2.c0 (Or.inl rfl)⟩
set_option maxRecDepth 20000 in
theorem rs5_4 {Q : fmR → fmM → Prop} {M : fmM} {tx : tX} {n a o b l f : Nat} {v2 : Option Value} (hL : srLp tx n l f) (hP : srPre M tx n a o b l) (h6 : o = 6 → ∀ M' : fmM, srBad M M' tx n 3 a b → Q (.inl none) M') (hne : ¬ o = 6 → ¬ spAg tx (fun q => spSt tx l f 1 (o + 1) (b + 1) q) b (sp tW tx a) = .inl (9, 0)) (hok : ¬ o = 6 → ∀ (M' : fmM) (ss : tS) (q' : Nat), spAg tx (fun q => spSt tx l f 1 (o + 1) (b + 1) q) b (sp tW tx a) = .inr (ss, q') → srOk M M' tx n q' b ss → Q (.inl none) M') (hbad : ¬ o = 6 → ∀ (M' : fmM) (k a' : Nat), spAg tx (fun q => spSt tx l f 1 (o + 1) (b + 1) q) b (sp tW tx a) = .inl (k, a') → srBad M M' tx n k a' b → Q (.inl none) M') : pvEv Tm (5 + (6 - o)) qX11_readsStep 5 [some (.ref 0), some (.int 4), v2] [] M Q := by
  refine pv_iloadn (pc := 5) (n := 1) 1 rfl rfl (fm_dec dtX11_readsStep 3 rfl) ?_
  refine pv_iconst (pc := 6) (v := (-1)) (by decide) (fm_dec dtX11_readsStep 4 rfl) ?_
  refine pv_icmp_ne (pc := 7) 19 (by decide) (fm_dec dtX11_readsStep 5 rfl) (fun _ => ?_) (fun hc7 => by exfalso; revert hc7; decide)
  refine pv_iloadn (pc := 19) (n := 1) 1 rfl rfl (fm_dec dtX11_readsStep 11 rfl) ?_
  refine pv_iconst (pc := 20) (v := 4) (by decide) (fm_dec dtX11_readsStep 12 rfl) ?_
  refine pv_icmp_ne (pc := 21) 32 (by decide) (fm_dec dtX11_readsStep 13 rfl) (fun hc21 => by exfalso; revert hc21; decide) (fun _ => ?_)
  refine pv_aloadn (pc := 24) (n := 0) 0 rfl rfl (fm_dec dtX11_readsStep 14 rfl) ?_
  refine pv_invV0 (k := 0) (d' := 1) (pc := 25) pcv_X11_227 (by decide) rfl (Nat.le_of_ble_eq_true rfl) (by omega) (fm_dec dtX11_readsStep 15 rfl) ?_
  refine c_opens hP.1 hP.2.1 hP.2.2.1 (fun h61 => ?_) (fun h61 => ?_)  
  · refine pv_then1 ?_
    refine pv_if_ne (pc := 28) 32 (by decide) (fm_dec dtX11_readsStep 16 rfl) (fun hc28 => by exfalso; revert hc28; decide) (fun _ => ?_)
    exact pv_return (pc := 31) rfl (fm_dec dtX11_readsStep 17 rfl) (h6 h61 _ (srBad.of (srFr.refl b M) (rdBad.at0 hP.1 (by decide) hP.1.2.1 (by decide))))
  · refine pv_then1 ?_
    refine pv_if_ne (pc := 28) 32 (by decide) (fm_dec dtX11_readsStep 16 rfl) (fun _ => ?_) (fun hc28 => by exfalso; revert hc28; decide)
    have ho5 : o < 6 := (by have := hP.2.2.2.1; omega)
    have hP8 := hP.in8 ho5
    refine pv_aloadn (pc := 32) (n := 0) 0 rfl rfl (fm_dec dtX11_readsStep 18 rfl) ?_
    refine pv_getI (k := 0) (j := 5) (ci := 11) (pc := 33) pfl_X11_117 (by decide) rfl (by decide) (fm_dec dtX11_readsStep 19 rfl) ?_
    refine pv_if_eq (pc := 36) 40 (by decide) (fm_dec dtX11_readsStep 20 rfl) (fun _ => ?_) (fun hc36 => by exfalso; exact hc36 hP.2.1)
    refine pv_aloadn (pc := 40) (n := 0) 0 rfl rfl (fm_dec dtX11_readsStep 22 rfl) ?_
    refine pv_invV0 (k := 0) (d' := 1) (pc := 41) pcv_X11_154 (by decide) rfl (Nat.le_of_ble_eq_true rfl) (by omega) (fm_dec dtX11_readsStep 23 rfl) ?_
    refine c_skipWord hP8.1 (fun x40 hx40 => ?_)
    refine pv_then0 ?_
    have hb80 := hP.b
    have hw40 := sp_le (p := a) tW_1 hP.1.2.2.2.1 hP.1.2.2.1
    refine pv_aloadn (pc := 44) (n := 0) 0 rfl rfl (fm_dec dtX11_readsStep 24 rfl) ?_
    refine pv_getR (k := 0) (j := 25) (ci := 11) (pc := 45) 24 rfl (by decide) pfl_X11_58 (by decide) rfl (by decide) (fm_dec dtX11_readsStep 25 rfl) ?_
    refine pv_aloadn (pc := 48) (n := 0) 0 rfl rfl (fm_dec dtX11_readsStep 26 rfl) ?_
    refine pv_getI (k := 0) (j := 26) (ci := 11) (pc := 49) pfl_X11_250 (by decide) rfl (by decide) (fm_dec dtX11_readsStep 27 rfl) ?_
    refine pv_aald (k := 24) (n := 80) (r := (423 + b)) (pc := 52) (by decide) (Or.inr (Or.inr rfl)) rfl (rw_step.inb hP8.2.2.2.2.1 hb80) (rw_step.at hP8.2.2.2.2.1 hb80) (rw_step.2.2.2 _ hb80).2.1 (fm_dec dtX11_readsStep 28 rfl) ?_
    refine pv_astoren (pc := 53) (n := 2) 2 rfl (by decide) rfl (fm_dec dtX11_readsStep 29 rfl) ?_
    dsimp only [List.set_cons_zero, List.set_cons_succ]
    refine pv_aloadn (pc := 54) (n := 0) 0 rfl rfl (fm_dec dtX11_readsStep 30 rfl) ?_
    refine pv_dup (pc := 55) rfl (fm_dec dtX11_readsStep 31 rfl) ?_
    refine pv_getI (k := 0) (j := 26) (ci := 11) (pc := 56) pfl_X11_250 (by decide) rfl (by decide) (fm_dec dtX11_readsStep 32 rfl) ?_
    refine pv_iconst (pc := 59) (v := 1) (by decide) (fm_dec dtX11_readsStep 33 rfl) ?_
    refine pv_iadd (pc := 60) (fm_dec dtX11_readsStep 34 rfl) ?_
    refine pv_putI (k := 0) (j := 26) (ci := 11) (pc := 61) pfl_X11_250 (by decide) rfl (by decide) (fm_dec dtX11_readsStep 35 rfl) ?_
    refine pv_aloadn (pc := 64) (n := 2) 2 rfl rfl (fm_dec dtX11_readsStep 36 rfl) ?_
    refine pv_iconst (pc := 65) (v := 0) (by decide) (fm_dec dtX11_readsStep 37 rfl) ?_
    refine pv_iloadn (pc := 66) (n := 1) 1 rfl rfl (fm_dec dtX11_readsStep 38 rfl) ?_
    refine pv_iast (k := (423 + b)) (n := 3) (pc := 67) (rw_step.2.2.2 _ hb80).2.2.1 (rw_step.2.2.2 _ hb80).2.2.2.1 (rw_step.2.2.2 _ hb80).2.2.2.2 (fm_inl (by decide)) (fm_dec dtX11_readsStep 39 rfl) ?_
    refine pv_iloadn (pc := 68) (n := 1) 1 rfl rfl (fm_dec dtX11_readsStep 40 rfl) ?_
    refine pv_iconst (pc := 69) (v := 3) (by decide) (fm_dec dtX11_readsStep 41 rfl) ?_
    refine pv_icmp_ge (pc := 70) 89 (by decide) (fm_dec dtX11_readsStep 42 rfl) (fun _ => ?_) (fun hc70 => by exfalso; revert hc70; decide)
    refine pv_iloadn (pc := 89) (n := 1) 1 rfl rfl (fm_dec dtX11_readsStep 55 rfl) ?_
    refine pv_iconst (pc := 90) (v := 4) (by decide) (fm_dec dtX11_readsStep 56 rfl) ?_
    refine pv_icmp_ne (pc := 91) 161 (by decide) (fm_dec dtX11_readsStep 57 rfl) (fun hc91 => by exfalso; revert hc91; decide) (fun _ => ?_)
    refine pv_aloadn (pc := 94) (n := 2) 2 rfl rfl (fm_dec dtX11_readsStep 58 rfl) ?_
    refine pv_iconst (pc := 95) (v := 1) (by decide) (fm_dec dtX11_readsStep 59 rfl) ?_
    refine pv_aloadn (pc := 96) (n := 0) 0 rfl rfl (fm_dec dtX11_readsStep 60 rfl) ?_
    refine pv_iconst (pc := 97) (v := 0) (by decide) (fm_dec dtX11_readsStep 61 rfl) ?_
    refine pv_bipush (pc := 98) (v := 20) (by decide) (fm_dec dtX11_readsStep 62 rfl) ?_
    refine pv_invV2 (k := 0) (d' := 2) (pc := 100) pcv_X11_163 (by decide) rfl (Nat.le_of_ble_eq_true rfl) (by omega) (fm_dec dtX11_readsStep 63 rfl) ?_
    refine r_num (M := rsM (fmI M 0 8 (M.1 0 8 + 1)) x40 4 b) (tx := tx) (n := n) (p := sp tW tx a) 0 20 ⟨by decide, by decide, by decide⟩ (rsM_S hP8 hx40 hw40).1 (rsM_S hP8 hx40 hw40).2 (fun M100 v100 q100 w100 e100 hw100 k100 => ?_) (fun Mb kb ab eb hB => ?_)  
    · refine pv_then1 ?_
      refine pv_iast (k := (423 + b)) (n := 3) (pc := 103) (rw_step.2.2.2 _ hb80).2.2.1 (rw_step.2.2.2 _ hb80).2.2.2.1 (rw_step.2.2.2 _ hb80).2.2.2.2 (fm_inl (by decide)) (fm_dec dtX11_readsStep 64 rfl) ?_
      refine pv_aloadn (pc := 104) (n := 0) 0 rfl rfl (fm_dec dtX11_readsStep 65 rfl) ?_
      refine pv_bipush (pc := 105) (v := 91) (by decide) (fm_dec dtX11_readsStep 66 rfl) ?_
      refine pv_invV1 (k := 0) (d' := 2) (pc := 107) pcv_X11_173 (by decide) rfl (Nat.le_of_ble_eq_true rfl) (by omega) (fm_dec dtX11_readsStep 67 rfl) ?_
      refine r_sign (M := fmI M100 (423 + b) 1 w100) (tx := tx) (n := n) (p := q100) 91 ⟨by decide, by decide⟩ (k100.1.row ⟨by omega, by omega⟩) (f0.row k100.2.1 (by omega)) (fun M107 q107 e107 k107 => ?_) (fun Mb kb ab eb hB => ?_)  
      · refine pv_then0 ?_
        refine pv_aloadn (pc := 110) (n := 0) 0 rfl rfl (fm_dec dtX11_readsStep 68 rfl) ?_
        refine pv_invV0 (k := 0) (d' := 1) (pc := 111) pcv_X11_123 (by decide) rfl (Nat.le_of_ble_eq_true rfl) (by omega) (fm_dec dtX11_readsStep 69 rfl) ?_
        refine r_blanks k107.1 k107.2.1 (fun M111 k111 => ?_)
        refine pv_then0 ?_
        have n1 := spNum_ok hP.1.2.2.2.1 hw40 e100
        have n2 := spSign_ok hP.1.2.2.2.1 n1.2.1 (by decide) e107
        have n3 : q107 ≤ sk tx q107 := sp_ge q107
        have n4 : a ≤ sp tW tx a := sp_ge a
        have hfr : srFr b M M111 := ((((rsM_fr8 hb80).rd k100.2.2).row ⟨Nat.le_refl _, by omega⟩).rd k107.2.2).rd k111.2.2
        have eA : spAg tx (fun q => spSt tx l f 1 (o + 1) (b + 1) q) b (sp tW tx a) = spBind (spSt tx l f 1 (o + 1) (b + 1) (sk tx q107)) fun ss q => spBind (spSign tx 93 q) fun _ q => spBind (spSign tx 59 q) fun _ q => .inr ((4, v100, b + 1 + ss.length) :: ss, q) := (by simp only [spAg, spBind, e100, e107])
        refine hL o (b + 1) (sk tx q107) (423 + b) M111 Q ho5 (hP8.in1 (by omega) k100.2.2 k107.2.2 k111) (fun h9 => hne h61 (by rw [eA, h9]; rfl)) (fun M145 ss q145 e145 k145 => ?_) (fun M145 kb ab eb hB => ?_)
        · refine rs_t0 hb80 hfr k145 (fun M148 M171 q148 q171 e148 f148 e171 k171 => ?_) (fun M9 kb ab hor h9 => ?_)
          · exact hok h61 M171 _ q171 (by rw [eA, e145]; simp only [spBind, e148, e171]) (rs_ag (o := o) (l := l) hb80 k100.2.2 k107.2.2 k111.2.2 k145 f148 k171.2.2 hw100 k171.1 k171.2.1)
          · rcases hor with e148 | ⟨q148, e148, e171⟩
            · exact hbad h61 M9 kb ab (by rw [eA, e145]; simp only [spBind, e148]) h9
            · exact hbad h61 M9 kb ab (by rw [eA, e145]; simp only [spBind, e148, e171]) h9
        · exact rs_t1 hb80 ⟨hB.1, hB.2.1, hB.2.2.1, hB.2.2.2.1, hfr.trans hB.2.2.2.2 (by omega)⟩ (fun M9 h9 => hbad h61 M9 kb ab (by rw [eA, eb]; rfl) h9)
      · refine pv_then0 ?_
        have hB9 := srBad.of (((rsM_fr8 hb80).rd k100.2.2).row ⟨Nat.le_refl _, by omega⟩) hB
        obtain ⟨qb, hSb⟩ := hB9.1
        refine pv_aloadn (pc := 110) (n := 0) 0 rfl rfl (fm_dec dtX11_readsStep 68 rfl) ?_
        refine pv_invV0 (k := 0) (d' := 1) (pc := 111) pcv_X11_123 (by decide) rfl (Nat.le_of_ble_eq_true rfl) (by omega) (fm_dec dtX11_readsStep 69 rfl) ?_
        refine c_blanks hSb (fun x111 hx111 => ?_)
        refine pv_then0 ?_
        exact rs_o1 (srBad.nz (hB9.bl hSb hx111)) (rs_t1 hb80 (hB9.bl hSb hx111) (fun M9 h9 => hbad h61 M9 kb ab (by simp only [spAg, spBind, e100, eb]) h9))
    · refine pv_then1 ?_
      have hB9 := srBad.of (rsM_fr8 hb80) hB
      refine pv_iast (k := (423 + b)) (n := 3) (pc := 103) (rw_step.2.2.2 _ hb80).2.2.1 (rw_step.2.2.2 _ hb80).2.2.2.1 (rw_step.2.2.2 _ hb80).2.2.2.2 (fm_inl (by decide)) (fm_dec dtX11_readsStep 64 rfl) ?_
      refine pv_aloadn (pc := 104) (n := 0) 0 rfl rfl (fm_dec dtX11_readsStep 65 rfl) ?_
      refine pv_bipush (pc := 105) (v := 91) (by decide) (fm_dec dtX11_readsStep 66 rfl) ?_
      refine pv_invV1 (k := 0) (d' := 2) (pc := 107) pcv_X11_173 (by decide) rfl (Nat.le_of_ble_eq_true rfl) (by omega) (fm_dec dtX11_readsStep 67 rfl) ?_
      refine c_sign1 (srBad.nz (M := M) (tx := tx) (n := n) (k := kb) (a := ab) (b := b) (srBad.row ⟨by omega, by omega⟩ hB9)) ?_
      refine pv_then0 ?_
      have hB8 := srBad.row (k := 423 + b) (j := 1) (x := 0) ⟨Nat.le_refl _, by omega⟩ hB9
      obtain ⟨qb, hSb⟩ := hB8.1
      refine pv_aloadn (pc := 110) (n := 0) 0 rfl rfl (fm_dec dtX11_readsStep 68 rfl) ?_
      refine pv_invV0 (k := 0) (d' := 1) (pc := 111) pcv_X11_123 (by decide) rfl (Nat.le_of_ble_eq_true rfl) (by omega) (fm_dec dtX11_readsStep 69 rfl) ?_
      refine c_blanks hSb (fun x111 hx111 => ?_)
      refine pv_then0 ?_
      exact rs_o1 (srBad.nz (hB8.bl hSb hx111)) (rs_t1 hb80 (hB8.bl hSb hx111) (fun M9 h9 => hbad h61 M9 kb ab (by simp only [spAg, spBind, eb]) h9))
theorem srPre.at0 {M : fmM} {x : Int32} {tx : tX} {n p o b l : Nat} (h : srPre M tx n p o b l) (hx : x.toInt = sk tx p) : srPre (fmI M 0 4 x) tx n (sk tx p) o b l := ⟨h.1.bl hx, h.2.1, h.2.2.1, h.2.2.2.1, h.2.2.2.2.1, (by have := sp_ge (P := tB) (tx := tx) p; have h9 := h.2.2.2.2.2.1; unfold sk; omega), h.2.2.2.2.2.2.1, (by rw [fmI_k _ _ (by decide)]; exact h.2.2.2.2.2.2.2.1), h.2.2.2.2.2.2.2.2⟩
theorem srFr.at0 {M : fmM} {x : Int32} {b : Nat} : srFr b M (fmI M 0 4 x) := (srFr.refl b M).c0 (Or.inl rfl)
theorem srOk.pre {M M' : fmM} {x : Int32} {tx : tX} {n q b : Nat} {ss : tS} (h : srOk (fmI M 0 4 x) M' tx n q b ss) : srOk M M' tx n q b ss := ⟨h.1, h.2.1, h.2.2.1.trans (by rw [fmI_j _ _ (by decide)]), h.2.2.2.1, h.2.2.2.2.1, srFr.at0.trans h.2.2.2.2.2 (Nat.le_refl _)⟩
theorem srBad.pre {M M' : fmM} {x : Int32} {tx : tX} {n k a b : Nat} (h : srBad (fmI M 0 4 x) M' tx n k a b) : srBad M M' tx n k a b := ⟨h.1, h.2.1, h.2.2.1, h.2.2.2.1, srFr.at0.trans h.2.2.2.2 (Nat.le_refl _)⟩
set_option maxRecDepth 20000 in
theorem rs_G {tx : tX} {n l f : Nat} (hL : srLp tx n l f) : srG tx n l (f + 1) := by
  intro o b p M Q hP hne hok hbad
  refine pvGood_of (Nat.le_of_ble_eq_true rfl) ?_
  show pvEv Tm (5 + (6 - o)) qX11_readsStep 0 [some (.ref 0), none, none] [] M Q
  refine pv_aloadn (pc := 0) (n := 0) 0 rfl rfl (fm_dec dtX11_readsStep 0 rfl) ?_
  refine pv_invV0 (k := 0) (d' := 4) (pc := 1) pcv_X11_247 (by decide) rfl (Nat.le_of_ble_eq_true rfl) (by omega) (fm_dec dtX11_readsStep 1 rfl) ?_
  refine c_stepHere hP.1 hP.2.1 (fun x1 e1 hx1 => ?_) (fun x1 e1 hx1 => ?_) (fun x1 e1 hx1 => ?_) (fun x1 e1 hx1 => ?_) (fun x1 e1 hx1 => ?_) (fun x1 e1 hx1 => ?_)
  · refine pv_then1 ?_
    refine pv_istoren (pc := 4) (n := 1) 1 rfl (by decide) rfl (fm_dec dtX11_readsStep 2 rfl) ?_
    dsimp only [List.set_cons_zero, List.set_cons_succ]
    have eS : spSt tx l (f + 1) 0 o b p = spSi tx l 0 b (sp tW tx (sk tx p)) := (by show spOneS _ _ _ _ _ _ = _; unfold spOneS; rw [e1]; rfl)
    exact rs5_0 (hP.at0 hx1) (fun M' ss q e h => hok M' ss q (eS.trans e) h.pre) (fun M' k a e h => hbad M' k a (eS.trans e) h.pre)
  · refine pv_then1 ?_
    refine pv_istoren (pc := 4) (n := 1) 1 rfl (by decide) rfl (fm_dec dtX11_readsStep 2 rfl) ?_
    dsimp only [List.set_cons_zero, List.set_cons_succ]
    have eS : spSt tx l (f + 1) 0 o b p = spSi tx l 1 b (sp tW tx (sk tx p)) := (by show spOneS _ _ _ _ _ _ = _; unfold spOneS; rw [e1]; rfl)
    exact rs5_1 (hP.at0 hx1) (fun M' ss q e h => hok M' ss q (eS.trans e) h.pre) (fun M' k a e h => hbad M' k a (eS.trans e) h.pre)
  · refine pv_then1 ?_
    refine pv_istoren (pc := 4) (n := 1) 1 rfl (by decide) rfl (fm_dec dtX11_readsStep 2 rfl) ?_
    dsimp only [List.set_cons_zero, List.set_cons_succ]
    have eS : spSt tx l (f + 1) 0 o b p = spSi tx l 2 b (sp tW tx (sk tx p)) := (by show spOneS _ _ _ _ _ _ = _; unfold spOneS; rw [e1]; rfl)
    exact rs5_2 (hP.at0 hx1) (fun M' ss q e h => hok M' ss q (eS.trans e) h.pre) (fun M' k a e h => hbad M' k a (eS.trans e) h.pre)
  · refine pv_then1 ?_
    refine pv_istoren (pc := 4) (n := 1) 1 rfl (by decide) rfl (fm_dec dtX11_readsStep 2 rfl) ?_
    dsimp only [List.set_cons_zero, List.set_cons_succ]
    have eS : spSt tx l (f + 1) 0 o b p = spWk tx b (sp tW tx (sk tx p)) := (by show spOneS _ _ _ _ _ _ = _; unfold spOneS; rw [e1]; rfl)
    exact rs5_3 (hP.at0 hx1) (fun M' ss q e h => hok M' ss q (eS.trans e) h.pre) (fun M' k a e h => hbad M' k a (eS.trans e) h.pre)
  · refine pv_then1 ?_
    refine pv_istoren (pc := 4) (n := 1) 1 rfl (by decide) rfl (fm_dec dtX11_readsStep 2 rfl) ?_
    dsimp only [List.set_cons_zero, List.set_cons_succ]
    have eS : spSt tx l (f + 1) 0 o b p = if o = 6 then .inl (3, sk tx p) else spAg tx (fun q => spSt tx l f 1 (o + 1) (b + 1) q) b (sp tW tx (sk tx p)) := (by show spOneS _ _ _ _ _ _ = _; unfold spOneS; rw [e1]; rfl)
    exact rs5_4 hL (hP.at0 hx1) (fun h6 M' h => hbad M' 3 _ (by rw [eS, if_pos h6]) h.pre) (fun h6 h9 => hne (by rw [eS, if_neg h6]; exact h9)) (fun h6 M' ss q e h => hok M' ss q (by rw [eS, if_neg h6]; exact e) h.pre) (fun h6 M' k a e h => hbad M' k a (by rw [eS, if_neg h6]; exact e) h.pre)
  · refine pv_then1 ?_
    refine pv_istoren (pc := 4) (n := 1) 1 rfl (by decide) rfl (fm_dec dtX11_readsStep 2 rfl) ?_
    dsimp only [List.set_cons_zero, List.set_cons_succ]
    have eS : spSt tx l (f + 1) 0 o b p = .inl (1, sk tx p) := (by show spOneS _ _ _ _ _ _ = _; unfold spOneS; rw [e1])
    exact rs5_n (hP.at0 hx1) (fun M' h => hbad M' 1 _ eS h.pre)
theorem rs_all {tx : tX} {n l : Nat} : ∀ f, srG tx n l f ∧ srLp tx n l f := by
  intro f
  induction f with
  | zero => exact ⟨fun o b p M Q hP hne => absurd rfl hne, fun o b p r0 M Q ho hP hne => absurd rfl hne⟩
  | succ f ih => exact ⟨rs_G ih.2, rs_loop ih.1 ih.2⟩
end
