abbrev cc_X10_bestWay_0 : scC := (qX10_bestWay, 1, [(0, 16), ((-2147483648), 2147483647), ((-2147483648), 2147483647), ((-2147483648), 2147483647), ((-2147483648), 2147483647)], [.inl (some 0, 0), .inl (some 1, 0), .inl (some 2, 0), .inl (some 3, 0), .inl (some 4, 0)], [], [(1, (0, 2), [], [], [])], [])
set_option maxRecDepth 20000 in
abbrev xx_X10_bestWay_0 : scX := (Tx, invX, lnX10, [(312, 1, 0, cc_X10_meanOf_0)], cc_X10_bestWay_0)
set_option maxRecDepth 20000 in
theorem hh_X10_bestWay_0 : scH Tx invX cc_X10_bestWay_0 := scCheck_ok (X := xx_X10_bestWay_0) (nodes := [(18, ([(0, 16), ((-2147483648), 2147483647), ((-2147483648), 2147483647), ((-2147483648), 2147483647), ((-2147483648), 2147483647), (0, 2), ((-2147483648), 2147483647), (1, 3)], [some (.inl (some 0, 0)), some (.inl (some 1, 0)), some (.inl (some 2, 0)), some (.inl (some 3, 0)), some (.inl (some 4, 0)), some (.inl (some 5, 0)), some (.inl (some 6, 0)), some (.inl (some 7, 0)), none], [], []), ([0, 0, 0, 0, 0, 0, 0, (-2)], 6))]) (fuel := 4000) ⟨lqX10, fa_cons (⟨pcs_X10_312, hh_X10_meanOf_0⟩) (fa_nil)⟩ dtX10_bestWay (by decide +kernel)
abbrev cc_X10_says_0 : scC := (qX10_says, 2, [((-2147483648), 2147483647), ((-2147483648), 2147483647), ((-2147483648), 2147483647), ((-2147483648), 2147483647), ((-2147483648), 2147483647)], [.inr (.inr (.inl [0])), .inl (some 0, 0), .inl (some 1, 0), .inl (some 2, 0), .inl (some 3, 0), .inl (some 4, 0)], [], [(1, (0, 2), [], [], []), (4, (0, 0), [], [], [])], [(0, 16, 1)])
set_option maxRecDepth 20000 in
abbrev xx_X10_says_0 : scX := (Tx, invX, lnX10, [(169, 0, 10, cc_X10_needWithin_13), (308, 0, 10, cc_X10_needRumour_0), (316, 1, 0, cc_X10_bestWay_0)], cc_X10_says_0)
set_option maxRecDepth 20000 in
theorem hh_X10_says_0 : scH Tx invX cc_X10_says_0 := scCheck_ok (X := xx_X10_says_0) (nodes := []) (fuel := 4000) ⟨lqX10, fa_cons (⟨⟨3, _, pcv_X10_169, rfl⟩, hh_X10_needWithin_13⟩) (fa_cons (⟨⟨4, _, pcv_X10_308, rfl⟩, hh_X10_needRumour_0⟩) (fa_cons (⟨pcs_X10_316, hh_X10_bestWay_0⟩) (fa_nil)))⟩ dtX10_says (by decide +kernel)
abbrev cc_X10_line_0 : scC := (qX10_line, 2, [((-2147483648), 2147483647), ((-2147483648), 2147483647), ((-2147483648), 2147483647), ((-2147483648), 2147483647)], [.inr (.inr (.inl [0])), .inl (some 0, 0), .inl (some 1, 0), .inl (some 2, 0), .inl (some 3, 0)], [], [(1, ((-1), 16), [], [], []), (4, (0, 0), [], [], [])], [(0, 16, 1)])
set_option maxRecDepth 20000 in
abbrev xx_X10_line_0 : scX := (Tx, invX, lnX10, [(308, 0, 10, cc_X10_needRumour_0), (316, 1, 0, cc_X10_bestWay_0)], cc_X10_line_0)
set_option maxRecDepth 20000 in
theorem hh_X10_line_0 : scH Tx invX cc_X10_line_0 := scCheck_ok (X := xx_X10_line_0) (nodes := [(12, ([((-2147483648), 2147483647), ((-2147483648), 2147483647), ((-2147483648), 2147483647), ((-2147483648), 2147483647), (0, 17)], [some (.inr (.inr (.inl [0]))), some (.inl (some 0, 0)), some (.inl (some 1, 0)), some (.inl (some 2, 0)), some (.inl (some 3, 0)), some (.inl (some 4, 0))], [], []), ([0, 0, 0, 0, (-2)], 34))]) (fuel := 4000) ⟨lqX10, fa_cons (⟨⟨4, _, pcv_X10_308, rfl⟩, hh_X10_needRumour_0⟩) (fa_cons (⟨pcs_X10_316, hh_X10_bestWay_0⟩) (fa_nil))⟩ dtX10_line (by decide +kernel)
abbrev cc_X10_needWithin_15 : scC := (qX10_needWithin, 0, [((-2147483648), 2147483647), (0, 0), ((-2147483648), 2147483647)], [.inr (.inr (.inl [0])), .inl (some 0, 0), .inl (some 1, 0), .inl (some 2, 0)], [], [(0, (0, 0), [], [(0, (0, 2147483647)), (2, (0, 2147483647))], []), (4, (0, 0), [], [], [])], [(0, 16, 1)])
set_option maxRecDepth 20000 in
abbrev xx_X10_needWithin_15 : scX := (Tx, invX, lnX10, [], cc_X10_needWithin_15)
set_option maxRecDepth 20000 in
theorem hh_X10_needWithin_15 : scH Tx invX cc_X10_needWithin_15 := scCheck_ok (X := xx_X10_needWithin_15) (nodes := []) (fuel := 4000) ⟨lqX10, fa_nil⟩ dtX10_needWithin (by decide +kernel)
abbrev cc_X10_needBits_0 : scC := (qX10_needBits, 1, [((-2147483648), 2147483647)], [.inr (.inr (.inl [0])), .inl (some 0, 0)], [], [(0, (0, 0), [], [], []), (4, (0, 0), [], [], [])], [(0, 16, 1)])
set_option maxRecDepth 20000 in
abbrev xx_X10_needBits_0 : scX := (Tx, invX, lnX10, [(169, 0, 10, cc_X10_needWithin_15)], cc_X10_needBits_0)
set_option maxRecDepth 20000 in
theorem hh_X10_needBits_0 : scH Tx invX cc_X10_needBits_0 := scCheck_ok (X := xx_X10_needBits_0) (nodes := []) (fuel := 4000) ⟨lqX10, fa_cons (⟨⟨3, _, pcv_X10_169, rfl⟩, hh_X10_needWithin_15⟩) (fa_nil)⟩ dtX10_needBits (by decide +kernel)
abbrev cc_J7_fill_53178_0 : scC := (qJ7_fill_53178, 0, [((-2147483648), 2147483647)], [.inr (.inr (.inl [45])), .inl (some 0, 0)], [], [(0, (0, 0), [], [], [])], [(45, 0, 201)])
set_option maxRecDepth 20000 in
abbrev xx_J7_fill_53178_0 : scX := (Tx, invX, lnJ7, [], cc_J7_fill_53178_0)
set_option maxRecDepth 20000 in
theorem hh_J7_fill_53178_0 : scH Tx invX cc_J7_fill_53178_0 := scCheck_ok (X := xx_J7_fill_53178_0) (nodes := [(5, ([((-2147483648), 2147483647), (0, 201), (201, 201), ((-2147483648), 2147483647)], [some (.inr (.inr (.inl [45]))), some (.inl (some 0, 0)), some (.inl (some 1, 0)), some (.inl (some 2, 0))], [], [((45, 0), (some 3, 0))]), ([0, (-2)], 402))]) (fuel := 4000) ⟨lqJ7, fa_nil⟩ dtJ7_fill_53178 (by decide +kernel)
abbrev cc_X10_fillRoom_0 : scC := (qX10_fillRoom, 2, [((-2147483648), 2147483647), (0, 200)], [.inr (.inr (.inl [0])), .inl (some 0, 0), .inl (some 1, 0)], [], [(1, ((-2147483648), 2147483647), [], [], [])], [(45, 0, 201)])
set_option maxRecDepth 20000 in
abbrev xx_X10_fillRoom_0 : scX := (Tx, invX, lnX10, [(384, 1, 0, cc_J7_fill_53178_0), (390, 0, 10, cc_hand_addToRoom)], cc_X10_fillRoom_0)
set_option maxRecDepth 20000 in
theorem hh_X10_fillRoom_0 : scH Tx invX cc_X10_fillRoom_0 := scCheck_ok (X := xx_X10_fillRoom_0) (nodes := [(10, ([((-2147483648), 2147483647), (0, 200), (0, 8), (0, 8)], [some (.inr (.inr (.inl [0]))), some (.inl (some 0, 0)), some (.inl (some 1, 0)), some (.inl (some 2, 0))], [], [((3, 9), (some 3, 0))]), ([0, 0, (-2)], 16))]) (fuel := 4000) ⟨lqX10, fa_cons (⟨pcs_X10_384, hh_J7_fill_53178_0⟩) (fa_cons (⟨⟨2, _, pcv_X10_390, rfl⟩, hh_hand_addToRoom⟩) (fa_nil))⟩ dtX10_fillRoom (by decide +kernel)
abbrev cc_X10_roomWorth_0 : scC := (qX10_roomWorth, 0, [((-2147483648), 2147483647)], [.inl (some 0, 0)], [], [(1, ((-2147483648), 2147483647), [], [], [])], [])
set_option maxRecDepth 20000 in
abbrev xx_X10_roomWorth_0 : scX := (Tx, invX, lnX10, [], cc_X10_roomWorth_0)
set_option maxRecDepth 20000 in
theorem hh_X10_roomWorth_0 : scH Tx invX cc_X10_roomWorth_0 := scCheck_ok (X := xx_X10_roomWorth_0) (nodes := []) (fuel := 4000) ⟨lqX10, fa_nil⟩ dtX10_roomWorth (by decide +kernel)
abbrev cc_X10_room_0 : scC := (qX10_room, 3, [((-2147483648), 2147483647), ((-2147483648), 2147483647)], [.inr (.inr (.inl [0])), .inl (some 0, 0), .inl (some 1, 0)], [], [(1, ((-2147483648), 2147483647), [], [], []), (4, (0, 0), [], [], [])], [(0, 16, 1), (45, 0, 201)])
set_option maxRecDepth 20000 in
abbrev xx_X10_room_0 : scX := (Tx, invX, lnX10, [(169, 0, 10, cc_X10_needWithin_3), (319, 0, 10, cc_X10_needBits_0), (322, 0, 10, cc_X10_fillRoom_0), (325, 1, 0, cc_X10_roomWorth_0)], cc_X10_room_0)
set_option maxRecDepth 20000 in
theorem hh_X10_room_0 : scH Tx invX cc_X10_room_0 := scCheck_ok (X := xx_X10_room_0) (nodes := []) (fuel := 4000) ⟨lqX10, fa_cons (⟨⟨3, _, pcv_X10_169, rfl⟩, hh_X10_needWithin_3⟩) (fa_cons (⟨⟨1, _, pcv_X10_319, rfl⟩, hh_X10_needBits_0⟩) (fa_cons (⟨⟨2, _, pcv_X10_322, rfl⟩, hh_X10_fillRoom_0⟩) (fa_cons (⟨pcs_X10_325, hh_X10_roomWorth_0⟩) (fa_nil))))⟩ dtX10_room (by decide +kernel)
abbrev cc_X10_roomShift_0 : scC := (qX10_roomShift, 0, [(0, 7)], [.inl (some 0, 0)], [], [(1, (0, 14), [], [], [])], [])
set_option maxRecDepth 20000 in
abbrev xx_X10_roomShift_0 : scX := (Tx, invX, lnX10, [], cc_X10_roomShift_0)
set_option maxRecDepth 20000 in
theorem hh_X10_roomShift_0 : scH Tx invX cc_X10_roomShift_0 := scCheck_ok (X := xx_X10_roomShift_0) (nodes := []) (fuel := 4000) ⟨lqX10, fa_nil⟩ dtX10_roomShift (by decide +kernel)
abbrev cc_X10_lines_0 : scC := (qX10_lines, 3, [((-2147483648), 2147483647), ((-2147483648), 2147483647), ((-2147483648), 2147483647)], [.inr (.inr (.inl [0])), .inl (some 0, 0), .inl (some 1, 0), .inl (some 2, 0)], [], [(1, (0, 99), [], [], []), (4, (0, 0), [], [], []), (5, (0, 0), [], [], [])], [(0, 15, 2), (45, 0, 201)])
set_option maxRecDepth 20000 in
abbrev xx_X10_lines_0 : scX := (Tx, invX, lnX10, [(169, 0, 10, cc_X10_needWithin_3), (197, 0, 10, cc_X10_needLife_0), (319, 0, 10, cc_X10_needBits_0), (322, 0, 10, cc_X10_fillRoom_0), (325, 1, 0, cc_X10_roomWorth_0), (328, 1, 0, cc_X10_roomShift_0)], cc_X10_lines_0)
set_option maxRecDepth 20000 in
theorem hh_X10_lines_0 : scH Tx invX cc_X10_lines_0 := scCheck_ok (X := xx_X10_lines_0) (nodes := []) (fuel := 4000) ⟨lqX10, fa_cons (⟨⟨3, _, pcv_X10_169, rfl⟩, hh_X10_needWithin_3⟩) (fa_cons (⟨⟨1, _, pcv_X10_197, rfl⟩, hh_X10_needLife_0⟩) (fa_cons (⟨⟨1, _, pcv_X10_319, rfl⟩, hh_X10_needBits_0⟩) (fa_cons (⟨⟨2, _, pcv_X10_322, rfl⟩, hh_X10_fillRoom_0⟩) (fa_cons (⟨pcs_X10_325, hh_X10_roomWorth_0⟩) (fa_cons (⟨pcs_X10_328, hh_X10_roomShift_0⟩) (fa_nil))))))⟩ dtX10_lines (by decide +kernel)
abbrev cc_X10_look_0 : scC := (qX10_look, 1, [], [.inr (.inr (.inl [0]))], [], [(0, (0, 0), [], [], [])], [(44, 0, 8)])
set_option maxRecDepth 20000 in
abbrev xx_X10_look_0 : scX := (Tx, invX, lnX10, [(225, 0, 8, cc_X8_factBits_0)], cc_X10_look_0)
set_option maxRecDepth 20000 in
theorem hh_X10_look_0 : scH Tx invX cc_X10_look_0 := scCheck_ok (X := xx_X10_look_0) (nodes := [(2, ([(0, 8), ((-2147483648), 2147483647), (0, 200), (0, 8)], [some (.inr (.inr (.inl [0]))), some (.inl (some 0, 0))], [], [((44, 0), (some 1, 0)), ((47, 2), (some 2, 0)), ((3, 9), (some 3, 0))]), ([(-2)], 16))]) (fuel := 4000) ⟨lqX10, fa_cons (⟨⟨2, _, pcv_X10_225, rfl⟩, hh_X8_factBits_0⟩) (fa_nil)⟩ dtX10_look (by decide +kernel)
abbrev cc_X10_tellsApart_0 : scC := (qX10_tellsApart, 0, [((-2147483648), 2147483647), ((-2147483648), 2147483647)], [.inr (.inr (.inl [0])), .inl (some 0, 0), .inl (some 1, 0)], [], [(1, (0, 1), [], [], [])], [])
set_option maxRecDepth 20000 in
abbrev xx_X10_tellsApart_0 : scX := (Tx, invX, lnX10, [], cc_X10_tellsApart_0)
set_option maxRecDepth 20000 in
theorem hh_X10_tellsApart_0 : scH Tx invX cc_X10_tellsApart_0 := scCheck_ok (X := xx_X10_tellsApart_0) (nodes := [(2, ([((-2147483648), 2147483647), ((-2147483648), 2147483647), (0, 8), (0, 8), ((-2147483648), 2147483647), ((-2147483648), 2147483647)], [some (.inr (.inr (.inl [0]))), some (.inl (some 0, 0)), some (.inl (some 1, 0)), some (.inl (some 2, 0)), none, none], [], [((3, 9), (some 3, 0)), ((44, 1), (some 4, 0)), ((44, 0), (some 5, 0))]), ([0, 0, (-18)], 160)), (18, ([((-2147483648), 2147483647), ((-2147483648), 2147483647), (0, 7), (1, 8), (1, 8), ((-2147483648), 2147483647), ((-2147483648), 2147483647)], [some (.inr (.inr (.inl [0]))), some (.inl (some 0, 0)), some (.inl (some 1, 0)), some (.inl (some 2, 0)), some (.inl (some 3, 0)), none], [], [((3, 9), (some 4, 0)), ((44, 1), (some 5, 0)), ((44, 0), (some 6, 0))]), ([0, 0, (-18), (-2)], 160))]) (fuel := 4000) ⟨lqX10, fa_nil⟩ dtX10_tellsApart (by decide +kernel)
abbrev cc_X10_apart_0 : scC := (qX10_apart, 2, [((-2147483648), 2147483647), ((-2147483648), 2147483647)], [.inr (.inr (.inl [0])), .inl (some 0, 0), .inl (some 1, 0)], [], [(1, ((-1), 2147483647), [], [], []), (4, (0, 0), [], [], [])], [(0, 16, 1), (44, 0, 8)])
set_option maxRecDepth 20000 in
abbrev xx_X10_apart_0 : scX := (Tx, invX, lnX10, [(169, 0, 10, cc_X10_needWithin_5), (182, 1, 0, cc_J6_bitCount_0f7a4_0), (319, 0, 10, cc_X10_needBits_0), (331, 0, 10, cc_X10_look_0), (334, 0, 10, cc_X10_tellsApart_0)], cc_X10_apart_0)
set_option maxRecDepth 20000 in
theorem hh_X10_apart_0 : scH Tx invX cc_X10_apart_0 := scCheck_ok (X := xx_X10_apart_0) (nodes := [(25, ([((-2147483648), 2147483647), (0, 1), ((-1), 2147483647), (0, 7), (0, 64)], [some (.inr (.inr (.inl [0]))), some (.inl (some 0, 0)), some (.inl (some 1, 0)), some (.inl (some 2, 0)), some (.inl (some 3, 0)), some (.inl (some 4, 0)), none], [], []), ([0, 0, 0, 0, (-2)], 128))]) (fuel := 4000) ⟨lqX10, fa_cons (⟨⟨3, _, pcv_X10_169, rfl⟩, hh_X10_needWithin_5⟩) (fa_cons (⟨pcs_X10_182, hh_J6_bitCount_0f7a4_0⟩) (fa_cons (⟨⟨1, _, pcv_X10_319, rfl⟩, hh_X10_needBits_0⟩) (fa_cons (⟨⟨0, _, pcv_X10_331, rfl⟩, hh_X10_look_0⟩) (fa_cons (⟨⟨2, _, pcv_X10_334, rfl⟩, hh_X10_tellsApart_0⟩) (fa_nil)))))⟩ dtX10_apart (by decide +kernel)
abbrev cc_X10_twins_0 : scC := (qX10_twins, 2, [], [.inr (.inr (.inl [0]))], [], [(1, ((-1), 77), [], [], [])], [(44, 0, 8)])
set_option maxRecDepth 20000 in
abbrev xx_X10_twins_0 : scX := (Tx, invX, lnX10, [(331, 0, 10, cc_X10_look_0)], cc_X10_twins_0)
set_option maxRecDepth 20000 in
theorem hh_X10_twins_0 : scH Tx invX cc_X10_twins_0 := scCheck_ok (X := xx_X10_twins_0) (nodes := [(6, ([(0, 8), (0, 8), ((-2147483648), 2147483647), ((-2147483648), 2147483647)], [some (.inr (.inr (.inl [0]))), some (.inl (some 0, 0)), none], [], [((3, 9), (some 1, 0)), ((44, 1), (some 2, 0)), ((44, 0), (some 3, 0))]), ([(-18)], 160)), (21, ([(0, 7), (1, 8), (1, 8), ((-2147483648), 2147483647), ((-2147483648), 2147483647)], [some (.inr (.inr (.inl [0]))), some (.inl (some 0, 0)), some (.inl (some 1, 0))], [], [((3, 9), (some 2, 0)), ((44, 1), (some 3, 0)), ((44, 0), (some 4, 0))]), ([(-18), (-2)], 160))]) (fuel := 4000) ⟨lqX10, fa_cons (⟨⟨0, _, pcv_X10_331, rfl⟩, hh_X10_look_0⟩) (fa_nil)⟩ dtX10_twins (by decide +kernel)
abbrev cc_X2_fits_0 : scC := (qX2_fits, 0, [((-2147483648), 2147483647)], [.inr (.inr (.inl [27])), .inl (some 0, 0)], [], [(1, (0, 1), [], [], [])], [])
set_option maxRecDepth 20000 in
abbrev xx_X2_fits_0 : scX := (Tx, invX, lnX2, [], cc_X2_fits_0)
set_option maxRecDepth 20000 in
theorem hh_X2_fits_0 : scH Tx invX cc_X2_fits_0 := scCheck_ok (X := xx_X2_fits_0) (nodes := []) (fuel := 4000) ⟨lqX2, fa_nil⟩ dtX2_fits (by decide +kernel)
abbrev cc_X10_weeksAsPage_0 : scC := (qX10_weeksAsPage, 1, [((-2147483648), 2147483647)], [.inr (.inr (.inl [0])), .inl (some 0, 0)], [], [(2, ((-9223372036854775808), 9223372036854775807), [], [], [])], [])
set_option maxRecDepth 20000 in
abbrev xx_X10_weeksAsPage_0 : scX := (Tx, invX, lnX10, [(225, 0, 8, cc_X8_factBits_0), (394, 0, 2, cc_X2_fits_0)], cc_X10_weeksAsPage_0)
set_option maxRecDepth 20000 in
theorem hh_X10_weeksAsPage_0 : scH Tx invX cc_X10_weeksAsPage_0 := scCheck_ok (X := xx_X10_weeksAsPage_0) (nodes := [(5, ([((-2147483648), 2147483647), (0, 61)], [some (.inr (.inr (.inl [0]))), some (.inl (some 0, 0)), some (.inr (.inl ((-9223372036854775808), 9223372036854775807))), none, some (.inl (some 1, 0))], [], []), ([0, (-2)], 122))]) (fuel := 4000) ⟨lqX10, fa_cons (⟨⟨2, _, pcv_X10_225, rfl⟩, hh_X8_factBits_0⟩) (fa_cons (⟨⟨1, _, pcv_X10_394, rfl⟩, hh_X2_fits_0⟩) (fa_nil))⟩ dtX10_weeksAsPage (by decide +kernel)
abbrev cc_X10_written_0 : scC := (qX10_written, 2, [((-2147483648), 2147483647)], [.inr (.inr (.inl [0])), .inl (some 0, 0)], [], [(2, ((-9223372036854775808), 9223372036854775807), [], [], []), (5, (0, 0), [], [], [])], [(0, 15, 1)])
set_option maxRecDepth 20000 in
abbrev xx_X10_written_0 : scX := (Tx, invX, lnX10, [(197, 0, 10, cc_X10_needLife_0), (338, 0, 10, cc_X10_weeksAsPage_0)], cc_X10_written_0)
set_option maxRecDepth 20000 in
theorem hh_X10_written_0 : scH Tx invX cc_X10_written_0 := scCheck_ok (X := xx_X10_written_0) (nodes := []) (fuel := 4000) ⟨lqX10, fa_cons (⟨⟨1, _, pcv_X10_197, rfl⟩, hh_X10_needLife_0⟩) (fa_cons (⟨⟨1, _, pcv_X10_338, rfl⟩, hh_X10_weeksAsPage_0⟩) (fa_nil))⟩ dtX10_written (by decide +kernel)
abbrev cc_X10_whose_0 : scC := (qX10_whose, 2, [], [.inr (.inr (.inl [0]))], [], [(1, ((-2147483648), 2147483647), [], [], [])], [])
set_option maxRecDepth 20000 in
abbrev xx_X10_whose_0 : scX := (Tx, invX, lnX10, [(338, 0, 10, cc_X10_weeksAsPage_0)], cc_X10_whose_0)
set_option maxRecDepth 20000 in
theorem hh_X10_whose_0 : scH Tx invX cc_X10_whose_0 := scCheck_ok (X := xx_X10_whose_0) (nodes := [(4, ([((-2147483648), 2147483647), (0, 8), (0, 8)], [some (.inr (.inr (.inl [0]))), some (.inl (some 0, 0)), some (.inl (some 1, 0))], [], [((3, 9), (some 2, 0))]), ([0, (-2)], 16))]) (fuel := 4000) ⟨lqX10, fa_cons (⟨⟨1, _, pcv_X10_338, rfl⟩, hh_X10_weeksAsPage_0⟩) (fa_nil)⟩ dtX10_whose (by decide +kernel)
abbrev cc_X10_needWithin_16 : scC := (qX10_needWithin, 0, [((-2147483648), 2147483647), (1, 1), (60, 60)], [.inr (.inr (.inl [0])), .inl (some 0, 0), .inl (some 1, 0), .inl (some 2, 0)], [], [(0, (0, 0), [], [(0, (1, 60))], []), (4, (0, 0), [], [], [])], [(0, 16, 1)])
set_option maxRecDepth 20000 in
abbrev xx_X10_needWithin_16 : scX := (Tx, invX, lnX10, [], cc_X10_needWithin_16)
set_option maxRecDepth 20000 in
theorem hh_X10_needWithin_16 : scH Tx invX cc_X10_needWithin_16 := scCheck_ok (X := xx_X10_needWithin_16) (nodes := []) (fuel := 4000) ⟨lqX10, fa_nil⟩ dtX10_needWithin (by decide +kernel)
abbrev cc_X10_needWithin_17 : scC := (qX10_needWithin, 0, [((-2147483648), 2147483647), (0, 0), (4, 4)], [.inr (.inr (.inl [0])), .inl (some 0, 0), .inl (some 1, 0), .inl (some 2, 0)], [], [(0, (0, 0), [], [(0, (0, 4))], []), (4, (0, 0), [], [], [])], [(0, 16, 1)])
set_option maxRecDepth 20000 in
abbrev xx_X10_needWithin_17 : scX := (Tx, invX, lnX10, [], cc_X10_needWithin_17)
set_option maxRecDepth 20000 in
theorem hh_X10_needWithin_17 : scH Tx invX cc_X10_needWithin_17 := scCheck_ok (X := xx_X10_needWithin_17) (nodes := []) (fuel := 4000) ⟨lqX10, fa_nil⟩ dtX10_needWithin (by decide +kernel)
abbrev cc_X6_copyFrom_1 : scC := (qX6_copyFrom, 0, [], [.inr (.inr (.inl [41])), .inr (.inr (.inl [47]))], [], [(0, (0, 0), [], [], [])], [(41, 1, 6), (42, 0, 8)])
set_option maxRecDepth 20000 in
abbrev xx_X6_copyFrom_1 : scX := (Tx, invX, lnX6, [], cc_X6_copyFrom_1)
set_option maxRecDepth 20000 in
theorem hh_X6_copyFrom_1 : scH Tx invX cc_X6_copyFrom_1 := scCheck_ok (X := xx_X6_copyFrom_1) (nodes := []) (fuel := 4000) ⟨lqX6, fa_nil⟩ dtX6_copyFrom (by decide +kernel)
abbrev cc_X6_isAlive_1 : scC := (qX6_isAlive, 0, [((-2147483648), 2147483647)], [.inr (.inr (.inl [41])), .inl (some 0, 0)], [], [(1, (0, 1), [], [], [])], [])
set_option maxRecDepth 20000 in
abbrev xx_X6_isAlive_1 : scX := (Tx, invX, lnX6, [], cc_X6_isAlive_1)
set_option maxRecDepth 20000 in
theorem hh_X6_isAlive_1 : scH Tx invX cc_X6_isAlive_1 := scCheck_ok (X := xx_X6_isAlive_1) (nodes := []) (fuel := 4000) ⟨lqX6, fa_nil⟩ dtX6_isAlive (by decide +kernel)
abbrev cc_X4_drawOf64_0 : scC := (qX4_drawOf64, 0, [], [.inr (.inr (.inl [39]))], [], [(1, ((-2147483648), 2147483647), [], [], [])], [(39, 4, 1)])
set_option maxRecDepth 20000 in
abbrev xx_X4_drawOf64_0 : scX := (Tx, invX, lnX4, [], cc_X4_drawOf64_0)
set_option maxRecDepth 20000 in
theorem hh_X4_drawOf64_0 : scH Tx invX cc_X4_drawOf64_0 := scCheck_ok (X := xx_X4_drawOf64_0) (nodes := []) (fuel := 4000) ⟨lqX4, fa_nil⟩ dtX4_drawOf64 (by decide +kernel)
abbrev cc_X0_yearsWhen_2 : scC := (qX0_yearsWhen, 0, [(0, 7), (0, 7)], [.inr (.inr (.inl [32])), .inr (.inr (.inl [41])), .inl (some 0, 0), .inl (some 1, 0)], [], [(1, (0, 317), [], [], [])], [])
set_option maxRecDepth 20000 in
abbrev xx_X0_yearsWhen_2 : scX := (Tx, invX, lnX0, [], cc_X0_yearsWhen_2)
set_option maxRecDepth 20000 in
theorem hh_X0_yearsWhen_2 : scH Tx invX cc_X0_yearsWhen_2 := scCheck_ok (X := xx_X0_yearsWhen_2) (nodes := []) (fuel := 4000) ⟨lqX0, fa_nil⟩ dtX0_yearsWhen (by decide +kernel)
abbrev cc_X0_signerDead_1 : scC := (qX0_signerDead, 1, [(0, 7)], [.inr (.inr (.inl [32])), .inr (.inr (.inl [41])), .inl (some 0, 0)], [], [(1, (0, 1), [], [], [])], [])
set_option maxRecDepth 20000 in
abbrev xx_X0_signerDead_1 : scX := (Tx, invX, lnX0, [(38, 0, 6, cc_X6_isAlive_1)], cc_X0_signerDead_1)
set_option maxRecDepth 20000 in
theorem hh_X0_signerDead_1 : scH Tx invX cc_X0_signerDead_1 := scCheck_ok (X := xx_X0_signerDead_1) (nodes := []) (fuel := 4000) ⟨lqX0, fa_cons (⟨⟨1, _, pcv_X0_38, rfl⟩, hh_X6_isAlive_1⟩) (fa_nil)⟩ dtX0_signerDead (by decide +kernel)
abbrev cc_X0_wrongWhen_2 : scC := (qX0_wrongWhen, 2, [(0, 7), (0, 7), ((-2147483648), 2147483647)], [.inr (.inr (.inl [32])), .inr (.inr (.inl [41])), .inl (some 0, 0), .inl (some 1, 0), .inl (some 2, 0)], [], [(1, (0, 64), [], [], [])], [(26, 0, 24)])
set_option maxRecDepth 20000 in
abbrev xx_X0_wrongWhen_2 : scX := (Tx, invX, lnX0, [(42, 0, 8, cc_X8_changesBetween_0), (46, 0, 0, cc_X0_yearsWhen_2), (53, 0, 0, cc_X0_signerDead_1), (57, 0, 1, cc_X1_outcome_0)], cc_X0_wrongWhen_2)
set_option maxRecDepth 20000 in
theorem hh_X0_wrongWhen_2 : scH Tx invX cc_X0_wrongWhen_2 := scCheck_ok (X := xx_X0_wrongWhen_2) (nodes := []) (fuel := 4000) ⟨lqX0, fa_cons (⟨⟨3, _, pcv_X0_42, rfl⟩, hh_X8_changesBetween_0⟩) (fa_cons (⟨⟨3, _, pcv_X0_46, rfl⟩, hh_X0_yearsWhen_2⟩) (fa_cons (⟨⟨2, _, pcv_X0_53, rfl⟩, hh_X0_signerDead_1⟩) (fa_cons (⟨⟨5, _, pcv_X0_57, rfl⟩, hh_X1_outcome_0⟩) (fa_nil))))⟩ dtX0_wrongWhen (by decide +kernel)
abbrev cc_X0_costWhen_2 : scC := (qX0_costWhen, 3, [(0, 7), (0, 7), ((-2147483648), 2147483647)], [.inr (.inr (.inl [32])), .inr (.inr (.inl [41])), .inl (some 0, 0), .inl (some 1, 0), .inl (some 2, 0)], [], [(2, ((-9223372036854775808), 9223372036854775807), [], [], [])], [(26, 0, 24)])
set_option maxRecDepth 20000 in
abbrev xx_X0_costWhen_2 : scX := (Tx, invX, lnX0, [(71, 0, 0, cc_X0_wrongWhen_2)], cc_X0_costWhen_2)
set_option maxRecDepth 20000 in
theorem hh_X0_costWhen_2 : scH Tx invX cc_X0_costWhen_2 := scCheck_ok (X := xx_X0_costWhen_2) (nodes := []) (fuel := 4000) ⟨lqX0, fa_cons (⟨⟨4, _, pcv_X0_71, rfl⟩, hh_X0_wrongWhen_2⟩) (fa_nil)⟩ dtX0_costWhen (by decide +kernel)
abbrev cc_X0_letDie_0 : scC := (qX0_letDie, 4, [(0, 7)], [.inr (.inr (.inl [32])), .inr (.inr (.inl [41])), .inl (some 0, 0)], [], [(1, (0, 1), [], [], [])], [(26, 0, 24), (41, 1, 1), (41, 3, 4), (42, 0, 8)])
set_option maxRecDepth 20000 in
abbrev xx_X0_letDie_0 : scX := (Tx, invX, lnX0, [(38, 0, 6, cc_X6_isAlive_1), (84, 0, 0, cc_X0_costWhen_2)], cc_X0_letDie_0)
set_option maxRecDepth 20000 in
theorem hh_X0_letDie_0 : scH Tx invX cc_X0_letDie_0 := scCheck_ok (X := xx_X0_letDie_0) (nodes := []) (fuel := 4000) ⟨lqX0, fa_cons (⟨⟨1, _, pcv_X0_38, rfl⟩, hh_X6_isAlive_1⟩) (fa_cons (⟨⟨4, _, pcv_X0_84, rfl⟩, hh_X0_costWhen_2⟩) (fa_nil))⟩ dtX0_letDie (by decide +kernel)
abbrev cc_X4_drawDeaths_0 : scC := (qX4_drawDeaths, 5, [], [.inr (.inr (.inl [39]))], [], [(0, (0, 0), [], [], [])], [(26, 0, 24), (39, 4, 1), (41, 1, 1), (41, 3, 4), (42, 0, 8)])
set_option maxRecDepth 20000 in
abbrev xx_X4_drawDeaths_0 : scX := (Tx, invX, lnX4, [(69, 0, 6, cc_X6_isAlive_1), (73, 0, 4, cc_X4_drawOf64_0), (81, 0, 0, cc_X0_letDie_0)], cc_X4_drawDeaths_0)
set_option maxRecDepth 20000 in
theorem hh_X4_drawDeaths_0 : scH Tx invX cc_X4_drawDeaths_0 := scCheck_ok (X := xx_X4_drawDeaths_0) (nodes := [(2, ([(0, 8), (0, 64), (0, 8)], [some (.inr (.inr (.inl [39]))), some (.inl (some 0, 0))], [], [((5, 0), (some 1, 0)), ((3, 9), (some 2, 0))]), ([(-2)], 16))]) (fuel := 4000) ⟨lqX4, fa_cons (⟨⟨1, _, pcv_X4_69, rfl⟩, hh_X6_isAlive_1⟩) (fa_cons (⟨⟨0, _, pcv_X4_73, rfl⟩, hh_X4_drawOf64_0⟩) (fa_cons (⟨⟨2, _, pcv_X4_81, rfl⟩, hh_X0_letDie_0⟩) (fa_nil)))⟩ dtX4_drawDeaths (by decide +kernel)
abbrev cc_X0_canBePut_1 : scC := (qX0_canBePut, 1, [(0, 7)], [.inr (.inr (.inl [32])), .inr (.inr (.inl [41])), .inl (some 0, 0)], [], [(1, (0, 1), [], [], [])], [])
set_option maxRecDepth 20000 in
abbrev xx_X0_canBePut_1 : scX := (Tx, invX, lnX0, [(38, 0, 6, cc_X6_isAlive_1)], cc_X0_canBePut_1)
set_option maxRecDepth 20000 in
theorem hh_X0_canBePut_1 : scH Tx invX cc_X0_canBePut_1 := scCheck_ok (X := xx_X0_canBePut_1) (nodes := []) (fuel := 4000) ⟨lqX0, fa_cons (⟨⟨1, _, pcv_X0_38, rfl⟩, hh_X6_isAlive_1⟩) (fa_nil)⟩ dtX0_canBePut (by decide +kernel)
abbrev cc_X0_savedRisk_1 : scC := (qX0_savedRisk, 4, [(0, 7)], [.inr (.inr (.inl [32])), .inr (.inr (.inl [41])), .inl (some 0, 0)], [], [(2, ((-9223372036854775808), 9223372036854775807), [], [], [])], [(26, 0, 24)])
set_option maxRecDepth 20000 in
abbrev xx_X0_savedRisk_1 : scX := (Tx, invX, lnX0, [(84, 0, 0, cc_X0_costWhen_2), (95, 0, 0, cc_X0_canBePut_1)], cc_X0_savedRisk_1)
set_option maxRecDepth 20000 in
theorem hh_X0_savedRisk_1 : scH Tx invX cc_X0_savedRisk_1 := scCheck_ok (X := xx_X0_savedRisk_1) (nodes := []) (fuel := 4000) ⟨lqX0, fa_cons (⟨⟨4, _, pcv_X0_84, rfl⟩, hh_X0_costWhen_2⟩) (fa_cons (⟨⟨2, _, pcv_X0_95, rfl⟩, hh_X0_canBePut_1⟩) (fa_nil))⟩ dtX0_savedRisk (by decide +kernel)
abbrev cc_X0_hoursFor_1 : scC := (qX0_hoursFor, 2, [(0, 0)], [.inr (.inr (.inl [32])), .inr (.inr (.inl [41])), .inl (some 0, 0)], [], [(1, (0, 9), [], [], [])], [])
set_option maxRecDepth 20000 in
abbrev xx_X0_hoursFor_1 : scX := (Tx, invX, lnX0, [(91, 0, 8, cc_X8_renewHours_0)], cc_X0_hoursFor_1)
set_option maxRecDepth 20000 in
theorem hh_X0_hoursFor_1 : scH Tx invX cc_X0_hoursFor_1 := scCheck_ok (X := xx_X0_hoursFor_1) (nodes := []) (fuel := 4000) ⟨lqX0, fa_cons (⟨⟨1, _, pcv_X0_91, rfl⟩, hh_X8_renewHours_0⟩) (fa_nil)⟩ dtX0_hoursFor (by decide +kernel)
abbrev cc_X0_hoursFor_2 : scC := (qX0_hoursFor, 2, [(0, 1)], [.inr (.inr (.inl [32])), .inr (.inr (.inl [41])), .inl (some 0, 0)], [], [(1, (0, 9), [], [], [])], [])
set_option maxRecDepth 20000 in
abbrev xx_X0_hoursFor_2 : scX := (Tx, invX, lnX0, [(91, 0, 8, cc_X8_renewHours_0)], cc_X0_hoursFor_2)
set_option maxRecDepth 20000 in
theorem hh_X0_hoursFor_2 : scH Tx invX cc_X0_hoursFor_2 := scCheck_ok (X := xx_X0_hoursFor_2) (nodes := []) (fuel := 4000) ⟨lqX0, fa_cons (⟨⟨1, _, pcv_X0_91, rfl⟩, hh_X8_renewHours_0⟩) (fa_nil)⟩ dtX0_hoursFor (by decide +kernel)
abbrev cc_X0_hoursFor_3 : scC := (qX0_hoursFor, 2, [(0, 2)], [.inr (.inr (.inl [32])), .inr (.inr (.inl [41])), .inl (some 0, 0)], [], [(1, (0, 9), [], [], [])], [])
set_option maxRecDepth 20000 in
abbrev xx_X0_hoursFor_3 : scX := (Tx, invX, lnX0, [(91, 0, 8, cc_X8_renewHours_0)], cc_X0_hoursFor_3)
set_option maxRecDepth 20000 in
theorem hh_X0_hoursFor_3 : scH Tx invX cc_X0_hoursFor_3 := scCheck_ok (X := xx_X0_hoursFor_3) (nodes := []) (fuel := 4000) ⟨lqX0, fa_cons (⟨⟨1, _, pcv_X0_91, rfl⟩, hh_X8_renewHours_0⟩) (fa_nil)⟩ dtX0_hoursFor (by decide +kernel)
abbrev cc_X0_hoursFor_4 : scC := (qX0_hoursFor, 2, [(0, 7)], [.inr (.inr (.inl [32])), .inr (.inr (.inl [41])), .inl (some 0, 0)], [], [(1, (0, 9), [], [], [])], [])
set_option maxRecDepth 20000 in
abbrev xx_X0_hoursFor_4 : scX := (Tx, invX, lnX0, [(91, 0, 8, cc_X8_renewHours_0)], cc_X0_hoursFor_4)
set_option maxRecDepth 20000 in
theorem hh_X0_hoursFor_4 : scH Tx invX cc_X0_hoursFor_4 := scCheck_ok (X := xx_X0_hoursFor_4) (nodes := []) (fuel := 4000) ⟨lqX0, fa_cons (⟨⟨1, _, pcv_X0_91, rfl⟩, hh_X8_renewHours_0⟩) (fa_nil)⟩ dtX0_hoursFor (by decide +kernel)
abbrev cc_X0_firstOf_1 : scC := (qX0_firstOf, 3, [((-2147483648), 2147483647)], [.inr (.inr (.inl [32])), .inr (.inr (.inl [41])), .inr (.inr (.inl [40])), .inl (some 0, 0)], [], [(1, ((-1), 7), [], [], [])], [])
set_option maxRecDepth 20000 in
abbrev xx_X0_firstOf_1 : scX := (Tx, invX, lnX0, [(113, 0, 0, cc_X0_hoursFor_1), (113, 0, 0, cc_X0_hoursFor_2), (113, 0, 0, cc_X0_hoursFor_3), (113, 0, 0, cc_X0_hoursFor_4)], cc_X0_firstOf_1)
set_option maxRecDepth 20000 in
theorem hh_X0_firstOf_1 : scH Tx invX cc_X0_firstOf_1 := scCheck_ok (X := xx_X0_firstOf_1) (nodes := [(12, ([((-2147483648), 2147483647), ((-1), 7), (0, 9), (0, 8), (0, 8)], [some (.inr (.inr (.inl [32]))), some (.inr (.inr (.inl [41]))), some (.inr (.inr (.inl [40]))), some (.inl (some 0, 0)), some (.inl (some 1, 0)), some (.inr (.inl ((-9223372036854775808), 9223372036854775807))), none, some (.inl (some 2, 0)), some (.inl (some 3, 0)), none], [], [((3, 9), (some 4, 0))]), ([0, 0, 0, (-2)], 16))]) (fuel := 4000) ⟨lqX0, fa_cons (⟨⟨2, _, pcv_X0_113, rfl⟩, hh_X0_hoursFor_1⟩) (fa_cons (⟨⟨2, _, pcv_X0_113, rfl⟩, hh_X0_hoursFor_2⟩) (fa_cons (⟨⟨2, _, pcv_X0_113, rfl⟩, hh_X0_hoursFor_3⟩) (fa_cons (⟨⟨2, _, pcv_X0_113, rfl⟩, hh_X0_hoursFor_4⟩) (fa_nil))))⟩ dtX0_firstOf (by decide +kernel)
abbrev cc_X0_putPiece_0 : scC := (qX0_putPiece, 3, [(0, 7)], [.inr (.inr (.inl [32])), .inr (.inr (.inl [41])), .inl (some 0, 0)], [], [(1, (0, 1), [], [], [])], [(41, 3, 1), (42, 0, 8)])
set_option maxRecDepth 20000 in
abbrev xx_X0_putPiece_0 : scX := (Tx, invX, lnX0, [(95, 0, 0, cc_X0_canBePut_1), (113, 0, 0, cc_X0_hoursFor_4)], cc_X0_putPiece_0)
set_option maxRecDepth 20000 in
theorem hh_X0_putPiece_0 : scH Tx invX cc_X0_putPiece_0 := scCheck_ok (X := xx_X0_putPiece_0) (nodes := []) (fuel := 4000) ⟨lqX0, fa_cons (⟨⟨2, _, pcv_X0_95, rfl⟩, hh_X0_canBePut_1⟩) (fa_cons (⟨⟨2, _, pcv_X0_113, rfl⟩, hh_X0_hoursFor_4⟩) (fa_nil))⟩ dtX0_putPiece (by decide +kernel)
abbrev cc_X4_putFirsts_0 : scC := (qX4_putFirsts, 5, [], [.inr (.inr (.inl [39]))], [], [(0, (0, 0), [], [], [])], [(26, 0, 24), (39, 1, 1), (40, 0, 8), (41, 3, 1), (42, 0, 8)])
set_option maxRecDepth 20000 in
abbrev xx_X4_putFirsts_0 : scX := (Tx, invX, lnX4, [(85, 0, 0, cc_X0_savedRisk_1), (92, 0, 0, cc_X0_firstOf_1), (96, 0, 0, cc_X0_putPiece_0)], cc_X4_putFirsts_0)
set_option maxRecDepth 20000 in
theorem hh_X4_putFirsts_0 : scH Tx invX cc_X4_putFirsts_0 := scCheck_ok (X := xx_X4_putFirsts_0) (nodes := [(2, ([(0, 8), (0, 8)], [some (.inr (.inr (.inl [39]))), some (.inl (some 0, 0)), none], [], [((3, 9), (some 1, 0))]), ([(-2)], 34)), (42, ([(0, 8), (0, 8), ((-2147483648), 2147483647)], [some (.inr (.inr (.inl [39]))), some (.inl (some 0, 0)), none], [], [((3, 9), (some 1, 0)), ((39, 1), (some 2, 0))]), ([(-2)], 16))]) (fuel := 4000) ⟨lqX4, fa_cons (⟨⟨2, _, pcv_X4_85, rfl⟩, hh_X0_savedRisk_1⟩) (fa_cons (⟨⟨3, _, pcv_X4_92, rfl⟩, hh_X0_firstOf_1⟩) (fa_cons (⟨⟨2, _, pcv_X4_96, rfl⟩, hh_X0_putPiece_0⟩) (fa_nil)))⟩ dtX4_putFirsts (by decide +kernel)
abbrev cc_X0_passWeek_0 : scC := (qX0_passWeek, 0, [], [.inr (.inr (.inl [32])), .inr (.inr (.inl [41]))], [], [(1, (0, 1), [], [], [])], [(41, 2, 2), (42, 0, 8)])
set_option maxRecDepth 20000 in
abbrev xx_X0_passWeek_0 : scX := (Tx, invX, lnX0, [], cc_X0_passWeek_0)
set_option maxRecDepth 20000 in
theorem hh_X0_passWeek_0 : scH Tx invX cc_X0_passWeek_0 := scCheck_ok (X := xx_X0_passWeek_0) (nodes := [(35, ([(0, 8), ((-1), 12), ((-1), 12), (1, 200), ((-2147483648), 2147483647), (0, 8)], [some (.inr (.inr (.inl [32]))), some (.inr (.inr (.inl [41]))), some (.inl (some 0, 0))], [], [((41, 3), (some 1, 0)), ((3, 11), (some 2, 0)), ((41, 2), (some 3, 0)), ((42, 0), (some 4, 0)), ((3, 9), (some 5, 0))]), ([(-2)], 16))]) (fuel := 4000) ⟨lqX0, fa_nil⟩ dtX0_passWeek (by decide +kernel)
abbrev cc_X4_play_0 : scC := (qX4_play, 6, [((-2147483648), 2147483647), ((-2147483648), 2147483647)], [.inr (.inr (.inl [39])), .inr (.inr (.inl [47])), .inl (some 0, 0), .inl (some 1, 0)], [], [(0, (0, 0), [], [], [])], [(26, 0, 24), (39, 1, 1), (39, 4, 1), (40, 0, 8), (41, 1, 6), (42, 0, 8)])
set_option maxRecDepth 20000 in
abbrev xx_X4_play_0 : scX := (Tx, invX, lnX4, [(26, 0, 6, cc_X6_copyFrom_1), (47, 0, 4, cc_X4_drawDeaths_0), (50, 0, 4, cc_X4_putFirsts_0), (53, 0, 0, cc_X0_passWeek_0)], cc_X4_play_0)
set_option maxRecDepth 20000 in
theorem hh_X4_play_0 : scH Tx invX cc_X4_play_0 := scCheck_ok (X := xx_X4_play_0) (nodes := [(45, ([((-2147483648), 2147483647), ((-2147483648), 2147483647), (0, 2147483647), ((-2147483648), 2147483647), ((-2147483648), 2147483647), ((-2147483648), 2147483647), ((-2147483648), 2147483647)], [some (.inr (.inr (.inl [39]))), some (.inr (.inr (.inl [47]))), some (.inl (some 0, 0)), some (.inl (some 1, 0)), some (.inl (some 2, 0))], [], [((39, 4), (some 3, 0)), ((39, 1), (some 4, 0)), ((41, 5), (some 5, 0)), ((41, 4), (some 6, 0))]), ([0, 0, (-2)], 4294967294))]) (fuel := 4000) ⟨lqX4, fa_cons (⟨⟨1, _, pcv_X4_26, rfl⟩, hh_X6_copyFrom_1⟩) (fa_cons (⟨⟨0, _, pcv_X4_47, rfl⟩, hh_X4_drawDeaths_0⟩) (fa_cons (⟨⟨0, _, pcv_X4_50, rfl⟩, hh_X4_putFirsts_0⟩) (fa_cons (⟨⟨1, _, pcv_X4_53, rfl⟩, hh_X0_passWeek_0⟩) (fa_nil))))⟩ dtX4_play (by decide +kernel)
abbrev cc_X10_years_0 : scC := (qX10_years, 7, [((-2147483648), 2147483647), ((-2147483648), 2147483647), ((-2147483648), 2147483647)], [.inr (.inr (.inl [0])), .inl (some 0, 0), .inl (some 1, 0), .inl (some 2, 0)], [], [(1, ((-2147483648), 2147483647), [], [], []), (4, (0, 0), [], [], [])], [(0, 16, 1), (26, 0, 24), (39, 1, 1), (39, 4, 1), (40, 0, 8), (41, 1, 6), (42, 0, 8)])
set_option maxRecDepth 20000 in
abbrev xx_X10_years_0 : scX := (Tx, invX, lnX10, [(169, 0, 10, cc_X10_needWithin_16), (169, 0, 10, cc_X10_needWithin_17), (182, 1, 0, cc_J6_bitCount_0f7a4_0), (342, 0, 4, cc_X4_play_0)], cc_X10_years_0)
set_option maxRecDepth 20000 in
theorem hh_X10_years_0 : scH Tx invX cc_X10_years_0 := scCheck_ok (X := xx_X10_years_0) (nodes := []) (fuel := 4000) ⟨lqX10, fa_cons (⟨⟨3, _, pcv_X10_169, rfl⟩, hh_X10_needWithin_16⟩) (fa_cons (⟨⟨3, _, pcv_X10_169, rfl⟩, hh_X10_needWithin_17⟩) (fa_cons (⟨pcs_X10_182, hh_J6_bitCount_0f7a4_0⟩) (fa_cons (⟨⟨3, _, pcv_X10_342, rfl⟩, hh_X4_play_0⟩) (fa_nil))))⟩ dtX10_years (by decide +kernel)
abbrev cc_X10_needWithin_18 : scC := (qX10_needWithin, 0, [((-2147483648), 2147483647), (1, 1), (20, 20)], [.inr (.inr (.inl [0])), .inl (some 0, 0), .inl (some 1, 0), .inl (some 2, 0)], [], [(0, (0, 0), [], [(0, (1, 20))], []), (4, (0, 0), [], [], [])], [(0, 16, 1)])
set_option maxRecDepth 20000 in
abbrev xx_X10_needWithin_18 : scX := (Tx, invX, lnX10, [], cc_X10_needWithin_18)
set_option maxRecDepth 20000 in
theorem hh_X10_needWithin_18 : scH Tx invX cc_X10_needWithin_18 := scCheck_ok (X := xx_X10_needWithin_18) (nodes := []) (fuel := 4000) ⟨lqX10, fa_nil⟩ dtX10_needWithin (by decide +kernel)
abbrev cc_X10_needWithin_19 : scC := (qX10_needWithin, 0, [((-2147483648), 2147483647), (0, 0), (3, 3)], [.inr (.inr (.inl [0])), .inl (some 0, 0), .inl (some 1, 0), .inl (some 2, 0)], [], [(0, (0, 0), [], [(0, (0, 3))], []), (4, (0, 0), [], [], [])], [(0, 16, 1)])
set_option maxRecDepth 20000 in
abbrev xx_X10_needWithin_19 : scX := (Tx, invX, lnX10, [], cc_X10_needWithin_19)
set_option maxRecDepth 20000 in
theorem hh_X10_needWithin_19 : scH Tx invX cc_X10_needWithin_19 := scCheck_ok (X := xx_X10_needWithin_19) (nodes := []) (fuel := 4000) ⟨lqX10, fa_nil⟩ dtX10_needWithin (by decide +kernel)
abbrev cc_X10_needWithin_20 : scC := (qX10_needWithin, 0, [((-2147483648), 2147483647), (0, 0), ((-1), 7)], [.inr (.inr (.inl [0])), .inl (some 0, 0), .inl (some 1, 0), .inl (some 2, 0)], [], [(0, (0, 0), [], [(0, (0, 7)), (2, (0, 7))], []), (4, (0, 0), [], [], [])], [(0, 16, 1)])
set_option maxRecDepth 20000 in
abbrev xx_X10_needWithin_20 : scX := (Tx, invX, lnX10, [], cc_X10_needWithin_20)
set_option maxRecDepth 20000 in
theorem hh_X10_needWithin_20 : scH Tx invX cc_X10_needWithin_20 := scCheck_ok (X := xx_X10_needWithin_20) (nodes := []) (fuel := 4000) ⟨lqX10, fa_nil⟩ dtX10_needWithin (by decide +kernel)
abbrev cc_X10_span_0 : scC := (qX10_span, 7, [((-2147483648), 2147483647), ((-2147483648), 2147483647), ((-2147483648), 2147483647), ((-2147483648), 2147483647), ((-2147483648), 2147483647)], [.inr (.inr (.inl [0])), .inl (some 0, 0), .inl (some 1, 0), .inl (some 2, 0), .inl (some 3, 0), .inl (some 4, 0)], [], [(1, ((-2147483648), 2147483647), [], [], []), (4, (0, 0), [], [], [])], [(0, 16, 1), (26, 0, 24), (39, 1, 1), (39, 4, 1), (40, 0, 8), (41, 1, 6), (42, 0, 8)])
set_option maxRecDepth 20000 in
abbrev xx_X10_span_0 : scX := (Tx, invX, lnX10, [(169, 0, 10, cc_X10_needWithin_18), (169, 0, 10, cc_X10_needWithin_16), (169, 0, 10, cc_X10_needWithin_19), (169, 0, 10, cc_X10_needWithin_20), (215, 0, 6, cc_X6_isAlive_1), (342, 0, 4, cc_X4_play_0)], cc_X10_span_0)
set_option maxRecDepth 20000 in
theorem hh_X10_span_0 : scH Tx invX cc_X10_span_0 := scCheck_ok (X := xx_X10_span_0) (nodes := [(56, ([((-2147483648), 2147483647), (1, 20), (1, 60), (0, 3), (0, 7), ((-2147483648), 8), (0, 2147483647), ((-2147483648), 2147483647), ((-2147483648), 2147483647), (0, 20), (1, 8), ((-2147483648), 2147483647)], [some (.inr (.inr (.inl [0]))), some (.inl (some 0, 0)), some (.inl (some 1, 0)), some (.inl (some 2, 0)), some (.inl (some 3, 0)), some (.inl (some 4, 0)), some (.inl (some 5, 0)), some (.inl (some 6, 0)), some (.inl (some 7, 0)), some (.inl (some 8, 0)), some (.inl (some 9, 0)), none], [], [((3, 9), (some 10, 0)), ((41, 4), (some 11, 0))]), ([0, 0, 0, 0, 0, 0, 0, 0, 0, (-2)], 40))]) (fuel := 4000) ⟨lqX10, fa_cons (⟨⟨3, _, pcv_X10_169, rfl⟩, hh_X10_needWithin_18⟩) (fa_cons (⟨⟨3, _, pcv_X10_169, rfl⟩, hh_X10_needWithin_16⟩) (fa_cons (⟨⟨3, _, pcv_X10_169, rfl⟩, hh_X10_needWithin_19⟩) (fa_cons (⟨⟨3, _, pcv_X10_169, rfl⟩, hh_X10_needWithin_20⟩) (fa_cons (⟨⟨1, _, pcv_X10_215, rfl⟩, hh_X6_isAlive_1⟩) (fa_cons (⟨⟨3, _, pcv_X10_342, rfl⟩, hh_X4_play_0⟩) (fa_nil))))))⟩ dtX10_span (by decide +kernel)
abbrev cc_X6_copyFrom_2 : scC := (qX6_copyFrom, 0, [], [.inr (.inr (.inl [83, 119, 155])), .inr (.inr (.inl [47]))], [], [(0, (0, 0), [], [], [])], [(83, 1, 6), (84, 0, 8), (119, 1, 6), (120, 0, 8), (155, 1, 6), (156, 0, 8)])
set_option maxRecDepth 20000 in
abbrev xx_X6_copyFrom_2 : scX := (Tx, invX, lnX6, [], cc_X6_copyFrom_2)
set_option maxRecDepth 20000 in
theorem hh_X6_copyFrom_2 : scH Tx invX cc_X6_copyFrom_2 := scCheck_ok (X := xx_X6_copyFrom_2) (nodes := []) (fuel := 4000) ⟨lqX6, fa_nil⟩ dtX6_copyFrom (by decide +kernel)
abbrev cc_X6_copyFrom_3 : scC := (qX6_copyFrom, 0, [], [.inr (.inr (.inl [86, 122, 158])), .inr (.inr (.inl [50]))], [], [(0, (0, 0), [], [], [])], [(86, 1, 6), (102, 0, 8), (122, 1, 6), (138, 0, 8), (158, 1, 6), (174, 0, 8)])
set_option maxRecDepth 20000 in
abbrev xx_X6_copyFrom_3 : scX := (Tx, invX, lnX6, [], cc_X6_copyFrom_3)
set_option maxRecDepth 20000 in
theorem hh_X6_copyFrom_3 : scH Tx invX cc_X6_copyFrom_3 := scCheck_ok (X := xx_X6_copyFrom_3) (nodes := []) (fuel := 4000) ⟨lqX6, fa_nil⟩ dtX6_copyFrom (by decide +kernel)
abbrev cc_X6_copyFrom_4 : scC := (qX6_copyFrom, 0, [], [.inr (.inr (.inl [86, 87, 122, 123, 158, 159])), .inr (.inr (.inl [50, 51]))], [], [(0, (0, 0), [], [], [])], [(86, 1, 6), (87, 1, 6), (102, 0, 8), (103, 0, 8), (122, 1, 6), (123, 1, 6), (138, 0, 8), (139, 0, 8), (158, 1, 6), (159, 1, 6), (174, 0, 8), (175, 0, 8)])
set_option maxRecDepth 20000 in
abbrev xx_X6_copyFrom_4 : scX := (Tx, invX, lnX6, [], cc_X6_copyFrom_4)
set_option maxRecDepth 20000 in
theorem hh_X6_copyFrom_4 : scH Tx invX cc_X6_copyFrom_4 := scCheck_ok (X := xx_X6_copyFrom_4) (nodes := []) (fuel := 4000) ⟨lqX6, fa_nil⟩ dtX6_copyFrom (by decide +kernel)
abbrev cc_X6_copyFrom_5 : scC := (qX6_copyFrom, 0, [], [.inr (.inr (.inl [86, 87, 88, 122, 123, 124, 158, 159, 160])), .inr (.inr (.inl [50, 51, 52]))], [], [(0, (0, 0), [], [], [])], [(86, 1, 6), (87, 1, 6), (88, 1, 6), (102, 0, 8), (103, 0, 8), (104, 0, 8), (122, 1, 6), (123, 1, 6), (124, 1, 6), (138, 0, 8), (139, 0, 8), (140, 0, 8), (158, 1, 6), (159, 1, 6), (160, 1, 6), (174, 0, 8), (175, 0, 8), (176, 0, 8)])
set_option maxRecDepth 20000 in
abbrev xx_X6_copyFrom_5 : scX := (Tx, invX, lnX6, [], cc_X6_copyFrom_5)
set_option maxRecDepth 20000 in
theorem hh_X6_copyFrom_5 : scH Tx invX cc_X6_copyFrom_5 := scCheck_ok (X := xx_X6_copyFrom_5) (nodes := []) (fuel := 4000) ⟨lqX6, fa_nil⟩ dtX6_copyFrom (by decide +kernel)
abbrev cc_X6_copyFrom_6 : scC := (qX6_copyFrom, 0, [], [.inr (.inr (.inl [86, 87, 88, 89, 90, 91, 92, 93, 122, 123, 124, 125, 126, 127, 128, 129, 158, 159, 160, 161, 162, 163, 164, 165])), .inr (.inr (.inl [50, 51, 52, 53, 54, 55, 56, 57]))], [], [(0, (0, 0), [], [], [])], [(86, 1, 6), (87, 1, 6), (88, 1, 6), (89, 1, 6), (90, 1, 6), (91, 1, 6), (92, 1, 6), (93, 1, 6), (102, 0, 8), (103, 0, 8), (104, 0, 8), (105, 0, 8), (106, 0, 8), (107, 0, 8), (108, 0, 8), (109, 0, 8), (122, 1, 6), (123, 1, 6), (124, 1, 6), (125, 1, 6), (126, 1, 6), (127, 1, 6), (128, 1, 6), (129, 1, 6), (138, 0, 8), (139, 0, 8), (140, 0, 8), (141, 0, 8), (142, 0, 8), (143, 0, 8), (144, 0, 8), (145, 0, 8), (158, 1, 6), (159, 1, 6), (160, 1, 6), (161, 1, 6), (162, 1, 6), (163, 1, 6), (164, 1, 6), (165, 1, 6), (174, 0, 8), (175, 0, 8), (176, 0, 8), (177, 0, 8), (178, 0, 8), (179, 0, 8), (180, 0, 8), (181, 0, 8)])
set_option maxRecDepth 20000 in
abbrev xx_X6_copyFrom_6 : scX := (Tx, invX, lnX6, [], cc_X6_copyFrom_6)
set_option maxRecDepth 20000 in
theorem hh_X6_copyFrom_6 : scH Tx invX cc_X6_copyFrom_6 := scCheck_ok (X := xx_X6_copyFrom_6) (nodes := []) (fuel := 4000) ⟨lqX6, fa_nil⟩ dtX6_copyFrom (by decide +kernel)
abbrev cc_X6_copyFrom_7 : scC := (qX6_copyFrom, 0, [], [.inr (.inr (.inl [86, 87, 88, 89, 90, 91, 92, 93, 94, 122, 123, 124, 125, 126, 127, 128, 129, 130, 158, 159, 160, 161, 162, 163, 164, 165, 166])), .inr (.inr (.inl [50, 51, 52, 53, 54, 55, 56, 57, 58]))], [], [(0, (0, 0), [], [], [])], [(86, 1, 6), (87, 1, 6), (88, 1, 6), (89, 1, 6), (90, 1, 6), (91, 1, 6), (92, 1, 6), (93, 1, 6), (94, 1, 6), (102, 0, 8), (103, 0, 8), (104, 0, 8), (105, 0, 8), (106, 0, 8), (107, 0, 8), (108, 0, 8), (109, 0, 8), (110, 0, 8), (122, 1, 6), (123, 1, 6), (124, 1, 6), (125, 1, 6), (126, 1, 6), (127, 1, 6), (128, 1, 6), (129, 1, 6), (130, 1, 6), (138, 0, 8), (139, 0, 8), (140, 0, 8), (141, 0, 8), (142, 0, 8), (143, 0, 8), (144, 0, 8), (145, 0, 8), (146, 0, 8), (158, 1, 6), (159, 1, 6), (160, 1, 6), (161, 1, 6), (162, 1, 6), (163, 1, 6), (164, 1, 6), (165, 1, 6), (166, 1, 6), (174, 0, 8), (175, 0, 8), (176, 0, 8), (177, 0, 8), (178, 0, 8), (179, 0, 8), (180, 0, 8), (181, 0, 8), (182, 0, 8)])
set_option maxRecDepth 20000 in
abbrev xx_X6_copyFrom_7 : scX := (Tx, invX, lnX6, [], cc_X6_copyFrom_7)
set_option maxRecDepth 20000 in
theorem hh_X6_copyFrom_7 : scH Tx invX cc_X6_copyFrom_7 := scCheck_ok (X := xx_X6_copyFrom_7) (nodes := []) (fuel := 4000) ⟨lqX6, fa_nil⟩ dtX6_copyFrom (by decide +kernel)
abbrev cc_X6_copyFrom_8 : scC := (qX6_copyFrom, 0, [], [.inr (.inr (.inl [86, 87, 88, 89, 90, 91, 92, 93, 94, 95, 96, 97, 98, 99, 100, 101, 122, 123, 124, 125, 126, 127, 128, 129, 130, 131, 132, 133, 134, 135, 136, 137, 158, 159, 160, 161, 162, 163, 164, 165, 166, 167, 168, 169, 170, 171, 172, 173])), .inr (.inr (.inl [50, 51, 52, 53, 54, 55, 56, 57, 58, 59, 60, 61, 62, 63, 64, 65]))], [], [(0, (0, 0), [], [], [])], [(86, 1, 6), (87, 1, 6), (88, 1, 6), (89, 1, 6), (90, 1, 6), (91, 1, 6), (92, 1, 6), (93, 1, 6), (94, 1, 6), (95, 1, 6), (96, 1, 6), (97, 1, 6), (98, 1, 6), (99, 1, 6), (100, 1, 6), (101, 1, 6), (102, 0, 8), (103, 0, 8), (104, 0, 8), (105, 0, 8), (106, 0, 8), (107, 0, 8), (108, 0, 8), (109, 0, 8), (110, 0, 8), (111, 0, 8), (112, 0, 8), (113, 0, 8), (114, 0, 8), (115, 0, 8), (116, 0, 8), (117, 0, 8), (122, 1, 6), (123, 1, 6), (124, 1, 6), (125, 1, 6), (126, 1, 6), (127, 1, 6), (128, 1, 6), (129, 1, 6), (130, 1, 6), (131, 1, 6), (132, 1, 6), (133, 1, 6), (134, 1, 6), (135, 1, 6), (136, 1, 6), (137, 1, 6), (138, 0, 8), (139, 0, 8), (140, 0, 8), (141, 0, 8), (142, 0, 8), (143, 0, 8), (144, 0, 8), (145, 0, 8), (146, 0, 8), (147, 0, 8), (148, 0, 8), (149, 0, 8), (150, 0, 8), (151, 0, 8), (152, 0, 8), (153, 0, 8), (158, 1, 6), (159, 1, 6), (160, 1, 6), (161, 1, 6), (162, 1, 6), (163, 1, 6), (164, 1, 6), (165, 1, 6), (166, 1, 6), (167, 1, 6), (168, 1, 6), (169, 1, 6), (170, 1, 6), (171, 1, 6), (172, 1, 6), (173, 1, 6), (174, 0, 8), (175, 0, 8), (176, 0, 8), (177, 0, 8), (178, 0, 8), (179, 0, 8), (180, 0, 8), (181, 0, 8), (182, 0, 8), (183, 0, 8), (184, 0, 8), (185, 0, 8), (186, 0, 8), (187, 0, 8), (188, 0, 8), (189, 0, 8)])
set_option maxRecDepth 20000 in
abbrev xx_X6_copyFrom_8 : scX := (Tx, invX, lnX6, [], cc_X6_copyFrom_8)
set_option maxRecDepth 20000 in
theorem hh_X6_copyFrom_8 : scH Tx invX cc_X6_copyFrom_8 := scCheck_ok (X := xx_X6_copyFrom_8) (nodes := []) (fuel := 4000) ⟨lqX6, fa_nil⟩ dtX6_copyFrom (by decide +kernel)
abbrev cc_X5_copyFrom_0 : scC := (qX5_copyFrom, 1, [], [.inr (.inr (.inl [82, 118, 154])), .inr (.inr (.inl [46]))], [], [(0, (0, 0), [], [], [])], [(82, 2, 1), (83, 1, 6), (84, 0, 8), (86, 1, 6), (87, 1, 6), (88, 1, 6), (89, 1, 6), (90, 1, 6), (91, 1, 6), (92, 1, 6), (93, 1, 6), (94, 1, 6), (95, 1, 6), (96, 1, 6), (97, 1, 6), (98, 1, 6), (99, 1, 6), (100, 1, 6), (101, 1, 6), (102, 0, 8), (103, 0, 8), (104, 0, 8), (105, 0, 8), (106, 0, 8), (107, 0, 8), (108, 0, 8), (109, 0, 8), (110, 0, 8), (111, 0, 8), (112, 0, 8), (113, 0, 8), (114, 0, 8), (115, 0, 8), (116, 0, 8), (117, 0, 8), (118, 2, 1), (119, 1, 6), (120, 0, 8), (122, 1, 6), (123, 1, 6), (124, 1, 6), (125, 1, 6), (126, 1, 6), (127, 1, 6), (128, 1, 6), (129, 1, 6), (130, 1, 6), (131, 1, 6), (132, 1, 6), (133, 1, 6), (134, 1, 6), (135, 1, 6), (136, 1, 6), (137, 1, 6), (138, 0, 8), (139, 0, 8), (140, 0, 8), (141, 0, 8), (142, 0, 8), (143, 0, 8), (144, 0, 8), (145, 0, 8), (146, 0, 8), (147, 0, 8), (148, 0, 8), (149, 0, 8), (150, 0, 8), (151, 0, 8), (152, 0, 8), (153, 0, 8), (154, 2, 1), (155, 1, 6), (156, 0, 8), (158, 1, 6), (159, 1, 6), (160, 1, 6), (161, 1, 6), (162, 1, 6), (163, 1, 6), (164, 1, 6), (165, 1, 6), (166, 1, 6), (167, 1, 6), (168, 1, 6), (169, 1, 6), (170, 1, 6), (171, 1, 6), (172, 1, 6), (173, 1, 6), (174, 0, 8), (175, 0, 8), (176, 0, 8), (177, 0, 8), (178, 0, 8), (179, 0, 8), (180, 0, 8), (181, 0, 8), (182, 0, 8), (183, 0, 8), (184, 0, 8), (185, 0, 8), (186, 0, 8), (187, 0, 8), (188, 0, 8), (189, 0, 8)])
set_option maxRecDepth 20000 in
abbrev xx_X5_copyFrom_0 : scX := (Tx, invX, lnX5, [(26, 0, 6, cc_X6_copyFrom_2), (26, 0, 6, cc_X6_copyFrom_3), (26, 0, 6, cc_X6_copyFrom_4), (26, 0, 6, cc_X6_copyFrom_5), (26, 0, 6, cc_X6_copyFrom_6), (26, 0, 6, cc_X6_copyFrom_7), (26, 0, 6, cc_X6_copyFrom_8)], cc_X5_copyFrom_0)
set_option maxRecDepth 20000 in
theorem hh_X5_copyFrom_0 : scH Tx invX cc_X5_copyFrom_0 := scCheck_ok (X := xx_X5_copyFrom_0) (nodes := [(21, ([(0, 16), (0, 16)], [some (.inr (.inr (.inl [82, 118, 154]))), some (.inr (.inr (.inl [46]))), some (.inl (some 0, 0))], [], [((46, 2), (some 1, 0))]), ([(-2)], 32))]) (fuel := 4000) ⟨lqX5, fa_cons (⟨⟨1, _, pcv_X5_26, rfl⟩, hh_X6_copyFrom_2⟩) (fa_cons (⟨⟨1, _, pcv_X5_26, rfl⟩, hh_X6_copyFrom_3⟩) (fa_cons (⟨⟨1, _, pcv_X5_26, rfl⟩, hh_X6_copyFrom_4⟩) (fa_cons (⟨⟨1, _, pcv_X5_26, rfl⟩, hh_X6_copyFrom_5⟩) (fa_cons (⟨⟨1, _, pcv_X5_26, rfl⟩, hh_X6_copyFrom_6⟩) (fa_cons (⟨⟨1, _, pcv_X5_26, rfl⟩, hh_X6_copyFrom_7⟩) (fa_cons (⟨⟨1, _, pcv_X5_26, rfl⟩, hh_X6_copyFrom_8⟩) (fa_nil)))))))⟩ dtX5_copyFrom (by decide +kernel)
abbrev cc_X10_image_0 : scC := (qX10_image, 2, [], [.inr (.inr (.inl [0]))], [], [(1, ((-1), 3), [], [], [])], [(0, 13, 1), (82, 2, 1), (83, 1, 6), (84, 0, 8), (86, 1, 6), (87, 1, 6), (88, 1, 6), (89, 1, 6), (90, 1, 6), (91, 1, 6), (92, 1, 6), (93, 1, 6), (94, 1, 6), (95, 1, 6), (96, 1, 6), (97, 1, 6), (98, 1, 6), (99, 1, 6), (100, 1, 6), (101, 1, 6), (102, 0, 8), (103, 0, 8), (104, 0, 8), (105, 0, 8), (106, 0, 8), (107, 0, 8), (108, 0, 8), (109, 0, 8), (110, 0, 8), (111, 0, 8), (112, 0, 8), (113, 0, 8), (114, 0, 8), (115, 0, 8), (116, 0, 8), (117, 0, 8), (118, 2, 1), (119, 1, 6), (120, 0, 8), (122, 1, 6), (123, 1, 6), (124, 1, 6), (125, 1, 6), (126, 1, 6), (127, 1, 6), (128, 1, 6), (129, 1, 6), (130, 1, 6), (131, 1, 6), (132, 1, 6), (133, 1, 6), (134, 1, 6), (135, 1, 6), (136, 1, 6), (137, 1, 6), (138, 0, 8), (139, 0, 8), (140, 0, 8), (141, 0, 8), (142, 0, 8), (143, 0, 8), (144, 0, 8), (145, 0, 8), (146, 0, 8), (147, 0, 8), (148, 0, 8), (149, 0, 8), (150, 0, 8), (151, 0, 8), (152, 0, 8), (153, 0, 8), (154, 2, 1), (155, 1, 6), (156, 0, 8), (158, 1, 6), (159, 1, 6), (160, 1, 6), (161, 1, 6), (162, 1, 6), (163, 1, 6), (164, 1, 6), (165, 1, 6), (166, 1, 6), (167, 1, 6), (168, 1, 6), (169, 1, 6), (170, 1, 6), (171, 1, 6), (172, 1, 6), (173, 1, 6), (174, 0, 8), (175, 0, 8), (176, 0, 8), (177, 0, 8), (178, 0, 8), (179, 0, 8), (180, 0, 8), (181, 0, 8), (182, 0, 8), (183, 0, 8), (184, 0, 8), (185, 0, 8), (186, 0, 8), (187, 0, 8), (188, 0, 8), (189, 0, 8)])
set_option maxRecDepth 20000 in
abbrev xx_X10_image_0 : scX := (Tx, invX, lnX10, [(360, 0, 5, cc_X5_copyFrom_0)], cc_X10_image_0)
set_option maxRecDepth 20000 in
theorem hh_X10_image_0 : scH Tx invX cc_X10_image_0 := scCheck_ok (X := xx_X10_image_0) (nodes := []) (fuel := 4000) ⟨lqX10, fa_cons (⟨⟨1, _, pcv_X10_360, rfl⟩, hh_X5_copyFrom_0⟩) (fa_nil)⟩ dtX10_image (by decide +kernel)
abbrev cc_X6_copyFrom_9 : scC := (qX6_copyFrom, 0, [], [.inr (.inr (.inl [47])), .inr (.inr (.inl [83, 119, 155]))], [], [(0, (0, 0), [], [], [])], [(47, 1, 6), (48, 0, 8)])
set_option maxRecDepth 20000 in
abbrev xx_X6_copyFrom_9 : scX := (Tx, invX, lnX6, [], cc_X6_copyFrom_9)
set_option maxRecDepth 20000 in
theorem hh_X6_copyFrom_9 : scH Tx invX cc_X6_copyFrom_9 := scCheck_ok (X := xx_X6_copyFrom_9) (nodes := []) (fuel := 4000) ⟨lqX6, fa_nil⟩ dtX6_copyFrom (by decide +kernel)
abbrev cc_X6_copyFrom_10 : scC := (qX6_copyFrom, 0, [], [.inr (.inr (.inl [50])), .inr (.inr (.inl [86, 122, 158]))], [], [(0, (0, 0), [], [], [])], [(50, 1, 6), (66, 0, 8)])
set_option maxRecDepth 20000 in
abbrev xx_X6_copyFrom_10 : scX := (Tx, invX, lnX6, [], cc_X6_copyFrom_10)
set_option maxRecDepth 20000 in
theorem hh_X6_copyFrom_10 : scH Tx invX cc_X6_copyFrom_10 := scCheck_ok (X := xx_X6_copyFrom_10) (nodes := []) (fuel := 4000) ⟨lqX6, fa_nil⟩ dtX6_copyFrom (by decide +kernel)
abbrev cc_X6_copyFrom_11 : scC := (qX6_copyFrom, 0, [], [.inr (.inr (.inl [50, 51])), .inr (.inr (.inl [86, 87, 122, 123, 158, 159]))], [], [(0, (0, 0), [], [], [])], [(50, 1, 6), (51, 1, 6), (66, 0, 8), (67, 0, 8)])
set_option maxRecDepth 20000 in
abbrev xx_X6_copyFrom_11 : scX := (Tx, invX, lnX6, [], cc_X6_copyFrom_11)
set_option maxRecDepth 20000 in
theorem hh_X6_copyFrom_11 : scH Tx invX cc_X6_copyFrom_11 := scCheck_ok (X := xx_X6_copyFrom_11) (nodes := []) (fuel := 4000) ⟨lqX6, fa_nil⟩ dtX6_copyFrom (by decide +kernel)
abbrev cc_X6_copyFrom_12 : scC := (qX6_copyFrom, 0, [], [.inr (.inr (.inl [50, 51, 52])), .inr (.inr (.inl [86, 87, 88, 122, 123, 124, 158, 159, 160]))], [], [(0, (0, 0), [], [], [])], [(50, 1, 6), (51, 1, 6), (52, 1, 6), (66, 0, 8), (67, 0, 8), (68, 0, 8)])
set_option maxRecDepth 20000 in
abbrev xx_X6_copyFrom_12 : scX := (Tx, invX, lnX6, [], cc_X6_copyFrom_12)
set_option maxRecDepth 20000 in
theorem hh_X6_copyFrom_12 : scH Tx invX cc_X6_copyFrom_12 := scCheck_ok (X := xx_X6_copyFrom_12) (nodes := []) (fuel := 4000) ⟨lqX6, fa_nil⟩ dtX6_copyFrom (by decide +kernel)
abbrev cc_X6_copyFrom_13 : scC := (qX6_copyFrom, 0, [], [.inr (.inr (.inl [50, 51, 52, 53, 54, 55, 56, 57])), .inr (.inr (.inl [86, 87, 88, 89, 90, 91, 92, 93, 122, 123, 124, 125, 126, 127, 128, 129, 158, 159, 160, 161, 162, 163, 164, 165]))], [], [(0, (0, 0), [], [], [])], [(50, 1, 6), (51, 1, 6), (52, 1, 6), (53, 1, 6), (54, 1, 6), (55, 1, 6), (56, 1, 6), (57, 1, 6), (66, 0, 8), (67, 0, 8), (68, 0, 8), (69, 0, 8), (70, 0, 8), (71, 0, 8), (72, 0, 8), (73, 0, 8)])
set_option maxRecDepth 20000 in
abbrev xx_X6_copyFrom_13 : scX := (Tx, invX, lnX6, [], cc_X6_copyFrom_13)
set_option maxRecDepth 20000 in
theorem hh_X6_copyFrom_13 : scH Tx invX cc_X6_copyFrom_13 := scCheck_ok (X := xx_X6_copyFrom_13) (nodes := []) (fuel := 4000) ⟨lqX6, fa_nil⟩ dtX6_copyFrom (by decide +kernel)
