abbrev cc_X11_yearsOf_3 : scC := (qX11_yearsOf, 0, [(0, 7), (0, 599)], [.inr (.inr (.inl [0])), .inl (some 0, 0), .inl (some 1, 0)], [], [(1, (0, 709), [], [], [])], [])
set_option maxRecDepth 20000 in
abbrev xx_X11_yearsOf_3 : scX := (Tm, invM, lnX11, [], cc_X11_yearsOf_3)
set_option maxRecDepth 20000 in
theorem hh_X11_yearsOf_3 : scH Tm invM cc_X11_yearsOf_3 := scCheck_ok (X := xx_X11_yearsOf_3) (nodes := []) (fuel := 4000) ⟨lqX11, fa_nil⟩ dtX11_yearsOf (by decide +kernel)
abbrev cc_X11_wrongIn_8 : scC := (qX11_wrongIn, 5, [(0, 7), ((-1000), 200), (0, 599)], [.inr (.inr (.inl [0])), .inr (.inr (.inl [7])), .inl (some 0, 0), .inl (some 1, 0), .inl (some 2, 0)], [], [(1, (0, 64), [], [], [])], [(5, 0, 160), (6, 0, 5)])
set_option maxRecDepth 20000 in
abbrev xx_X11_wrongIn_8 : scX := (Tm, invM, lnX11, [(263, 0, 11, cc_X11_yearsOf_3), (266, 0, 11, cc_X11_isByDead_1), (270, 0, 11, cc_X11_changesOf_0), (273, 0, 11, cc_X11_wrongBy_0)], cc_X11_wrongIn_8)
set_option maxRecDepth 20000 in
theorem hh_X11_wrongIn_8 : scH Tm invM cc_X11_wrongIn_8 := scCheck_ok (X := xx_X11_wrongIn_8) (nodes := []) (fuel := 4000) ⟨lqX11, fa_cons (⟨⟨2, _, pcv_X11_263, rfl⟩, hh_X11_yearsOf_3⟩) (fa_cons (⟨⟨2, _, pcv_X11_266, rfl⟩, hh_X11_isByDead_1⟩) (fa_cons (⟨⟨3, _, pcv_X11_270, rfl⟩, hh_X11_changesOf_0⟩) (fa_cons (⟨⟨5, _, pcv_X11_273, rfl⟩, hh_X11_wrongBy_0⟩) (fa_nil))))⟩ dtX11_wrongIn (by decide +kernel)
abbrev cc_X11_due_0 : scC := (qX11_due, 6, [((-2147483648), 2147483647), ((-2147483648), 2147483647)], [.inr (.inr (.inl [0])), .inl (some 0, 0), .inl (some 1, 0)], [], [(1, ((-1), 60), [], [], [])], [(0, 0, 1), (2, 0, 2), (5, 0, 160), (6, 0, 5)])
set_option maxRecDepth 20000 in
abbrev xx_X11_due_0 : scX := (Tm, invM, lnX11, [(135, 1, 0, cc_X11_in_7), (177, 0, 11, cc_X11_bad_2), (177, 0, 11, cc_X11_bad_5), (177, 0, 11, cc_X11_bad_3), (177, 0, 11, cc_X11_bad_4), (276, 0, 11, cc_X11_wrongIn_1), (276, 0, 11, cc_X11_wrongIn_6), (276, 0, 11, cc_X11_wrongIn_8), (283, 1, 0, cc_X11_hasPiece_1), (331, 0, 11, cc_X11_isLife_0)], cc_X11_due_0)
set_option maxRecDepth 20000 in
theorem hh_X11_due_0 : scH Tm invM cc_X11_due_0 := scCheck_ok (X := xx_X11_due_0) (nodes := [(55, ([(0, 7), (0, 65), (0, 61), (0, 0), (0, 200)], [some (.inr (.inr (.inl [0]))), some (.inl (some 0, 0)), some (.inl (some 1, 0)), some (.inl (some 2, 0))], [], [((0, 0), (some 3, 0)), ((7, 10), (some 4, 0))]), ([0, 0, (-2)], 122))]) (fuel := 4000) ⟨lqX11, fa_cons (⟨pcs_X11_135, hh_X11_in_7⟩) (fa_cons (⟨⟨3, _, pcv_X11_177, rfl⟩, hh_X11_bad_2⟩) (fa_cons (⟨⟨3, _, pcv_X11_177, rfl⟩, hh_X11_bad_5⟩) (fa_cons (⟨⟨3, _, pcv_X11_177, rfl⟩, hh_X11_bad_3⟩) (fa_cons (⟨⟨3, _, pcv_X11_177, rfl⟩, hh_X11_bad_4⟩) (fa_cons (⟨⟨4, _, pcv_X11_276, rfl⟩, hh_X11_wrongIn_1⟩) (fa_cons (⟨⟨4, _, pcv_X11_276, rfl⟩, hh_X11_wrongIn_6⟩) (fa_cons (⟨⟨4, _, pcv_X11_276, rfl⟩, hh_X11_wrongIn_8⟩) (fa_cons (⟨pcs_X11_283, hh_X11_hasPiece_1⟩) (fa_cons (⟨⟨1, _, pcv_X11_331, rfl⟩, hh_X11_isLife_0⟩) (fa_nil))))))))))⟩ dtX11_due (by decide +kernel)
abbrev cc_X11_news_0 : scC := (qX11_news, 2, [((-2147483648), 2147483647)], [.inr (.inr (.inl [0])), .inl (some 0, 0)], [], [(1, ((-1), 60), [], [], [])], [(0, 0, 1), (2, 0, 1)])
set_option maxRecDepth 20000 in
abbrev xx_X11_news_0 : scX := (Tm, invM, lnX11, [(177, 0, 11, cc_X11_bad_2), (177, 0, 11, cc_X11_bad_5), (331, 0, 11, cc_X11_isLife_0)], cc_X11_news_0)
set_option maxRecDepth 20000 in
theorem hh_X11_news_0 : scH Tm invM cc_X11_news_0 := scCheck_ok (X := xx_X11_news_0) (nodes := [(33, ([(0, 7), ((-1), 60), (0, 24), (0, 0), (0, 200), (0, 60), (0, 7), (0, 24)], [some (.inr (.inr (.inl [0]))), some (.inl (some 0, 0)), some (.inl (some 1, 0)), some (.inl (some 2, 0))], [], [((0, 0), (some 3, 0)), ((7, 10), (some 4, 0)), ((67, 2), (some 5, 0)), ((67, 0), (some 6, 0)), ((4, 1), (some 7, 0))]), ([0, 0, (-2)], 48))]) (fuel := 4000) ⟨lqX11, fa_cons (⟨⟨3, _, pcv_X11_177, rfl⟩, hh_X11_bad_2⟩) (fa_cons (⟨⟨3, _, pcv_X11_177, rfl⟩, hh_X11_bad_5⟩) (fa_cons (⟨⟨1, _, pcv_X11_331, rfl⟩, hh_X11_isLife_0⟩) (fa_nil)))⟩ dtX11_news (by decide +kernel)
abbrev cc_X11_expects_0 : scC := (qX11_expects, 7, [((-2147483648), 2147483647), ((-2147483648), 2147483647), ((-2147483648), 2147483647)], [.inr (.inr (.inl [0])), .inl (some 0, 0), .inl (some 1, 0), .inl (some 2, 0)], [], [(2, ((-9223372036854775808), 9223372036854775807), [], [], [])], [(0, 0, 1), (2, 0, 2), (5, 0, 160), (6, 0, 5)])
set_option maxRecDepth 20000 in
abbrev xx_X11_expects_0 : scX := (Tm, invM, lnX11, [(135, 1, 0, cc_X11_in_2), (177, 0, 11, cc_X11_bad_2), (177, 0, 11, cc_X11_bad_5), (177, 0, 11, cc_X11_bad_3), (177, 0, 11, cc_X11_bad_4), (256, 1, 0, cc_X11_has_0), (280, 0, 11, cc_X11_costIn_1), (280, 0, 11, cc_X11_costIn_6), (331, 0, 11, cc_X11_isLife_0), (340, 0, 11, cc_X11_noPart_1), (345, 1, 0, cc_hand_partOf), (365, 1, 0, cc_hand_power), (365, 1, 0, cc_X11_power_1)], cc_X11_expects_0)
set_option maxRecDepth 20000 in
theorem hh_X11_expects_0 : scH Tm invM cc_X11_expects_0 := scCheck_ok (X := xx_X11_expects_0) (nodes := [(78, ([(0, 7), (0, 7), (0, 1), (0, 64), (0, 7), (0, 0), (0, 200), ((-2147483648), 2147483647)], [some (.inr (.inr (.inl [0]))), some (.inl (some 0, 0)), some (.inl (some 1, 0)), some (.inl (some 2, 0)), some (.inr (.inl ((-9223372036854775808), 9223372036854775807))), none, some (.inl (some 3, 0)), some (.inl (some 4, 0))], [], [((0, 0), (some 5, 0)), ((7, 10), (some 6, 0)), ((7, 0), (some 7, 0))]), ([0, 0, 0, 0, (-2)], 14))]) (fuel := 4000) ⟨lqX11, fa_cons (⟨pcs_X11_135, hh_X11_in_2⟩) (fa_cons (⟨⟨3, _, pcv_X11_177, rfl⟩, hh_X11_bad_2⟩) (fa_cons (⟨⟨3, _, pcv_X11_177, rfl⟩, hh_X11_bad_5⟩) (fa_cons (⟨⟨3, _, pcv_X11_177, rfl⟩, hh_X11_bad_3⟩) (fa_cons (⟨⟨3, _, pcv_X11_177, rfl⟩, hh_X11_bad_4⟩) (fa_cons (⟨pcs_X11_256, hh_X11_has_0⟩) (fa_cons (⟨⟨4, _, pcv_X11_280, rfl⟩, hh_X11_costIn_1⟩) (fa_cons (⟨⟨4, _, pcv_X11_280, rfl⟩, hh_X11_costIn_6⟩) (fa_cons (⟨⟨1, _, pcv_X11_331, rfl⟩, hh_X11_isLife_0⟩) (fa_cons (⟨⟨2, _, pcv_X11_340, rfl⟩, hh_X11_noPart_1⟩) (fa_cons (⟨pcs_X11_345, hh_hand_partOf⟩) (fa_cons (⟨pcs_X11_365, hh_hand_power⟩) (fa_cons (⟨pcs_X11_365, hh_X11_power_1⟩) (fa_nil)))))))))))))⟩ dtX11_expects (by decide +kernel)
abbrev cc_X11_in_16 : scC := (qX11_in, 0, [((-2147483648), 2147483647), (1, 1), (60, 60)], [.inl (some 0, 0), .inl (some 1, 0), .inl (some 2, 0)], [], [(1, (0, 0), [], [], []), (1, (1, 1), [], [(0, (1, 60))], [])], [])
set_option maxRecDepth 20000 in
abbrev xx_X11_in_16 : scX := (Tm, invM, lnX11, [], cc_X11_in_16)
set_option maxRecDepth 20000 in
theorem hh_X11_in_16 : scH Tm invM cc_X11_in_16 := scCheck_ok (X := xx_X11_in_16) (nodes := []) (fuel := 4000) ⟨lqX11, fa_nil⟩ dtX11_in (by decide +kernel)
abbrev cc_X11_in_17 : scC := (qX11_in, 0, [((-2147483648), 2147483647), (0, 0), (4, 4)], [.inl (some 0, 0), .inl (some 1, 0), .inl (some 2, 0)], [], [(1, (0, 0), [], [], []), (1, (1, 1), [], [(0, (0, 4))], [])], [])
set_option maxRecDepth 20000 in
abbrev xx_X11_in_17 : scX := (Tm, invM, lnX11, [], cc_X11_in_17)
set_option maxRecDepth 20000 in
theorem hh_X11_in_17 : scH Tm invM cc_X11_in_17 := scCheck_ok (X := xx_X11_in_17) (nodes := []) (fuel := 4000) ⟨lqX11, fa_nil⟩ dtX11_in (by decide +kernel)
abbrev cc_X11_aliveIn_1 : scC := (qX11_aliveIn, 1, [], [.inr (.inr (.inl [0])), .inr (.inr (.inl [8]))], [], [(1, ((-2147483648), 2147483647), [], [], [])], [])
set_option maxRecDepth 20000 in
abbrev xx_X11_aliveIn_1 : scX := (Tm, invM, lnX11, [(256, 1, 0, cc_X11_has_0)], cc_X11_aliveIn_1)
set_option maxRecDepth 20000 in
theorem hh_X11_aliveIn_1 : scH Tm invM cc_X11_aliveIn_1 := scCheck_ok (X := xx_X11_aliveIn_1) (nodes := [(4, ([((-2147483648), 2147483647), (0, 8), ((-2147483648), 2147483647), (0, 8)], [some (.inr (.inr (.inl [0]))), some (.inr (.inr (.inl [8]))), some (.inl (some 0, 0)), some (.inl (some 1, 0))], [], [((8, 0), (some 2, 0)), ((4, 0), (some 3, 0))]), ([0, (-2)], 16))]) (fuel := 4000) ⟨lqX11, fa_cons (⟨pcs_X11_256, hh_X11_has_0⟩) (fa_nil)⟩ dtX11_aliveIn (by decide +kernel)
abbrev cc_X11_years_0 : scC := (qX11_years, 13, [((-2147483648), 2147483647), ((-2147483648), 2147483647), ((-2147483648), 2147483647)], [.inr (.inr (.inl [0])), .inl (some 0, 0), .inl (some 1, 0), .inl (some 2, 0)], [], [(1, ((-2147483648), 2147483647), [], [], [])], [(0, 0, 1), (0, 47, 2), (2, 1, 1), (5, 0, 160), (6, 0, 5), (8, 0, 14)])
set_option maxRecDepth 20000 in
abbrev xx_X11_years_0 : scX := (Tm, invM, lnX11, [(135, 1, 0, cc_X11_in_16), (135, 1, 0, cc_X11_in_17), (177, 0, 11, cc_X11_bad_0), (177, 0, 11, cc_X11_bad_1), (327, 0, 11, cc_X11_aliveIn_1), (433, 0, 11, cc_hand_yearsBy)], cc_X11_years_0)
set_option maxRecDepth 20000 in
theorem hh_X11_years_0 : scH Tm invM cc_X11_years_0 := scCheck_ok (X := xx_X11_years_0) (nodes := []) (fuel := 4000) ⟨lqX11, fa_cons (⟨pcs_X11_135, hh_X11_in_16⟩) (fa_cons (⟨pcs_X11_135, hh_X11_in_17⟩) (fa_cons (⟨⟨3, _, pcv_X11_177, rfl⟩, hh_X11_bad_0⟩) (fa_cons (⟨⟨3, _, pcv_X11_177, rfl⟩, hh_X11_bad_1⟩) (fa_cons (⟨⟨1, _, pcv_X11_327, rfl⟩, hh_X11_aliveIn_1⟩) (fa_cons (⟨⟨2, _, pcv_X11_433, rfl⟩, hh_hand_yearsBy⟩) (fa_nil))))))⟩ dtX11_years (by decide +kernel)
abbrev cc_X11_in_18 : scC := (qX11_in, 0, [((-2147483648), 2147483647), (1, 1), (20, 20)], [.inl (some 0, 0), .inl (some 1, 0), .inl (some 2, 0)], [], [(1, (0, 0), [], [], []), (1, (1, 1), [], [(0, (1, 20))], [])], [])
set_option maxRecDepth 20000 in
abbrev xx_X11_in_18 : scX := (Tm, invM, lnX11, [], cc_X11_in_18)
set_option maxRecDepth 20000 in
theorem hh_X11_in_18 : scH Tm invM cc_X11_in_18 := scCheck_ok (X := xx_X11_in_18) (nodes := []) (fuel := 4000) ⟨lqX11, fa_nil⟩ dtX11_in (by decide +kernel)
abbrev cc_X11_in_19 : scC := (qX11_in, 0, [((-2147483648), 2147483647), (0, 0), (3, 3)], [.inl (some 0, 0), .inl (some 1, 0), .inl (some 2, 0)], [], [(1, (0, 0), [], [], []), (1, (1, 1), [], [(0, (0, 3))], [])], [])
set_option maxRecDepth 20000 in
abbrev xx_X11_in_19 : scX := (Tm, invM, lnX11, [], cc_X11_in_19)
set_option maxRecDepth 20000 in
theorem hh_X11_in_19 : scH Tm invM cc_X11_in_19 := scCheck_ok (X := xx_X11_in_19) (nodes := []) (fuel := 4000) ⟨lqX11, fa_nil⟩ dtX11_in (by decide +kernel)
abbrev cc_X11_span_0 : scC := (qX11_span, 13, [((-2147483648), 2147483647), ((-2147483648), 2147483647), ((-2147483648), 2147483647), ((-2147483648), 2147483647), ((-2147483648), 2147483647)], [.inr (.inr (.inl [0])), .inl (some 0, 0), .inl (some 1, 0), .inl (some 2, 0), .inl (some 3, 0), .inl (some 4, 0)], [], [(1, ((-2147483648), 2147483647), [], [], [])], [(0, 0, 1), (0, 47, 2), (2, 1, 1), (5, 0, 160), (6, 0, 5), (8, 0, 14)])
set_option maxRecDepth 20000 in
abbrev xx_X11_span_0 : scX := (Tm, invM, lnX11, [(135, 1, 0, cc_X11_in_18), (135, 1, 0, cc_X11_in_16), (135, 1, 0, cc_X11_in_19), (177, 0, 11, cc_X11_bad_0), (177, 0, 11, cc_X11_bad_1), (256, 1, 0, cc_X11_has_0), (331, 0, 11, cc_X11_isLife_0), (433, 0, 11, cc_hand_yearsBy)], cc_X11_span_0)
set_option maxRecDepth 20000 in
theorem hh_X11_span_0 : scH Tm invM cc_X11_span_0 := scCheck_ok (X := xx_X11_span_0) (nodes := [(75, ([((-2147483648), 2147483647), (1, 20), (1, 60), (0, 3), (0, 7), ((-2147483648), 2147483647), (0, 2147483647), ((-2147483648), 2147483647), ((-2147483648), 2147483647), (0, 20), (0, 0), ((-2147483648), 2147483647), ((-2147483648), 2147483647), ((-2147483648), 2147483647)], [some (.inr (.inr (.inl [0]))), some (.inl (some 0, 0)), some (.inl (some 1, 0)), some (.inl (some 2, 0)), some (.inl (some 3, 0)), some (.inl (some 4, 0)), some (.inl (some 5, 0)), some (.inl (some 6, 0)), some (.inl (some 7, 0)), some (.inl (some 8, 0)), some (.inl (some 9, 0)), none], [], [((0, 0), (some 10, 0)), ((8, 0), (some 11, 0)), ((7, 11), (some 12, 0)), ((8, 11), (some 13, 0))]), ([0, 0, 0, 0, 0, 0, 0, 0, 0, (-2)], 40))]) (fuel := 4000) ⟨lqX11, fa_cons (⟨pcs_X11_135, hh_X11_in_18⟩) (fa_cons (⟨pcs_X11_135, hh_X11_in_16⟩) (fa_cons (⟨pcs_X11_135, hh_X11_in_19⟩) (fa_cons (⟨⟨3, _, pcv_X11_177, rfl⟩, hh_X11_bad_0⟩) (fa_cons (⟨⟨3, _, pcv_X11_177, rfl⟩, hh_X11_bad_1⟩) (fa_cons (⟨pcs_X11_256, hh_X11_has_0⟩) (fa_cons (⟨⟨1, _, pcv_X11_331, rfl⟩, hh_X11_isLife_0⟩) (fa_cons (⟨⟨2, _, pcv_X11_433, rfl⟩, hh_hand_yearsBy⟩) (fa_nil))))))))⟩ dtX11_span (by decide +kernel)
abbrev cc_X11_image_0 : scC := (qX11_image, 2, [], [.inr (.inr (.inl [0]))], [], [(1, ((-1), 3), [], [], [])], [(0, 0, 1), (0, 32, 1), (0, 34, 2), (7, 0, 14), (503, 0, 14), (504, 0, 14), (505, 0, 14), (506, 0, 14), (507, 0, 14), (508, 0, 14), (509, 0, 14), (510, 0, 14), (511, 0, 14), (512, 0, 14), (513, 0, 14), (514, 0, 14), (515, 0, 14), (516, 0, 14), (517, 0, 14), (518, 0, 14), (519, 0, 239), (520, 0, 239), (521, 0, 239)])
set_option maxRecDepth 20000 in
abbrev xx_X11_image_0 : scX := (Tm, invM, lnX11, [(443, 0, 11, cc_hand_putsAll0)], cc_X11_image_0)
set_option maxRecDepth 20000 in
theorem hh_X11_image_0 : scH Tm invM cc_X11_image_0 := scCheck_ok (X := xx_X11_image_0) (nodes := []) (fuel := 4000) ⟨lqX11, fa_cons (⟨⟨2, _, pcv_X11_443, rfl⟩, hh_hand_putsAll0⟩) (fa_nil)⟩ dtX11_image (by decide +kernel)
abbrev cc_X11_restore_0 : scC := (qX11_restore, 2, [], [.inr (.inr (.inl [0]))], [], [(1, ((-1), 2), [], [], [])], [(0, 0, 1), (0, 32, 4), (7, 0, 14), (503, 0, 14), (504, 0, 14), (505, 0, 14), (506, 0, 14), (507, 0, 14), (508, 0, 14), (509, 0, 14), (510, 0, 14), (511, 0, 14), (512, 0, 14), (513, 0, 14), (514, 0, 14), (515, 0, 14), (516, 0, 14), (517, 0, 14), (518, 0, 14)])
set_option maxRecDepth 20000 in
abbrev xx_X11_restore_0 : scX := (Tm, invM, lnX11, [(443, 0, 11, cc_hand_putsAll1)], cc_X11_restore_0)
set_option maxRecDepth 20000 in
theorem hh_X11_restore_0 : scH Tm invM cc_X11_restore_0 := scCheck_ok (X := xx_X11_restore_0) (nodes := []) (fuel := 4000) ⟨lqX11, fa_cons (⟨⟨2, _, pcv_X11_443, rfl⟩, hh_hand_putsAll1⟩) (fa_nil)⟩ dtX11_restore (by decide +kernel)
abbrev cc_X11_status_0 : scC := (qX11_status, 1, [((-2147483648), 2147483647)], [.inr (.inr (.inl [0])), .inl (some 0, 0)], [], [(1, ((-2147483648), 2147483647), [], [], [])], [(0, 0, 1)])
set_option maxRecDepth 20000 in
abbrev xx_X11_status_0 : scX := (Tm, invM, lnX11, [(135, 1, 0, cc_X11_in_5)], cc_X11_status_0)
set_option maxRecDepth 20000 in
theorem hh_X11_status_0 : scH Tm invM cc_X11_status_0 := scCheck_ok (X := xx_X11_status_0) (nodes := []) (fuel := 4000) ⟨lqX11, fa_cons (⟨pcs_X11_135, hh_X11_in_5⟩) (fa_nil)⟩ dtX11_status (by decide +kernel)
abbrev cc_X11_count_0 : scC := (qX11_count, 0, [((-2147483648), 2147483647)], [.inr (.inr (.inl [0])), .inl (some 0, 0)], [], [(1, ((-1), 600), [], [], [])], [(0, 0, 1)])
set_option maxRecDepth 20000 in
abbrev xx_X11_count_0 : scX := (Tm, invM, lnX11, [], cc_X11_count_0)
set_option maxRecDepth 20000 in
theorem hh_X11_count_0 : scH Tm invM cc_X11_count_0 := scCheck_ok (X := xx_X11_count_0) (nodes := []) (fuel := 4000) ⟨lqX11, fa_nil⟩ dtX11_count (by decide +kernel)
