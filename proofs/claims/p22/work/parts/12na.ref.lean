abbrev cc_X11_has_0 : scC := (qX11_has, 0, [((-2147483648), 2147483647), ((-2147483648), 2147483647)], [.inl (some 0, 0), .inl (some 1, 0)], [], [(1, (0, 1), [], [], [])], [])
set_option maxRecDepth 20000 in
abbrev xx_X11_has_0 : scX := (Tm, invM, lnX11, [], cc_X11_has_0)
set_option maxRecDepth 20000 in
theorem hh_X11_has_0 : scH Tm invM cc_X11_has_0 := scCheck_ok (X := xx_X11_has_0) (nodes := []) (fuel := 4000) ⟨lqX11, fa_nil⟩ dtX11_has (by decide +kernel)
abbrev cc_X11_mayWrite_0 : scC := (qX11_mayWrite, 1, [(0, 7)], [.inr (.inr (.inl [0])), .inr (.inr (.inl [8])), .inl (some 0, 0)], [], [(1, (0, 1), [], [], [])], [])
set_option maxRecDepth 20000 in
abbrev xx_X11_mayWrite_0 : scX := (Tm, invM, lnX11, [(256, 1, 0, cc_X11_has_0)], cc_X11_mayWrite_0)
set_option maxRecDepth 20000 in
theorem hh_X11_mayWrite_0 : scH Tm invM cc_X11_mayWrite_0 := scCheck_ok (X := xx_X11_mayWrite_0) (nodes := []) (fuel := 4000) ⟨lqX11, fa_cons (⟨pcs_X11_256, hh_X11_has_0⟩) (fa_nil)⟩ dtX11_mayWrite (by decide +kernel)
abbrev cc_X11_yearsOf_0 : scC := (qX11_yearsOf, 0, [(0, 7), (0, 200)], [.inr (.inr (.inl [0])), .inl (some 0, 0), .inl (some 1, 0)], [], [(1, (0, 310), [], [], [])], [])
set_option maxRecDepth 20000 in
abbrev xx_X11_yearsOf_0 : scX := (Tm, invM, lnX11, [], cc_X11_yearsOf_0)
set_option maxRecDepth 20000 in
theorem hh_X11_yearsOf_0 : scH Tm invM cc_X11_yearsOf_0 := scCheck_ok (X := xx_X11_yearsOf_0) (nodes := []) (fuel := 4000) ⟨lqX11, fa_nil⟩ dtX11_yearsOf (by decide +kernel)
abbrev cc_X11_isByDead_0 : scC := (qX11_isByDead, 1, [(0, 7)], [.inr (.inr (.inl [0])), .inr (.inr (.inl [8])), .inl (some 0, 0)], [], [(1, (0, 1), [], [], [])], [])
set_option maxRecDepth 20000 in
abbrev xx_X11_isByDead_0 : scX := (Tm, invM, lnX11, [(256, 1, 0, cc_X11_has_0)], cc_X11_isByDead_0)
set_option maxRecDepth 20000 in
theorem hh_X11_isByDead_0 : scH Tm invM cc_X11_isByDead_0 := scCheck_ok (X := xx_X11_isByDead_0) (nodes := []) (fuel := 4000) ⟨lqX11, fa_cons (⟨pcs_X11_256, hh_X11_has_0⟩) (fa_nil)⟩ dtX11_isByDead (by decide +kernel)
abbrev cc_X11_changesOf_0 : scC := (qX11_changesOf, 0, [((-2147483648), 2147483647), ((-2147483648), 2147483647), ((-2147483648), 2147483647)], [.inr (.inr (.inl [0])), .inl (some 0, 0), .inl (some 1, 0), .inl (some 2, 0)], [], [(1, ((-2147483648), 2147483647), [], [], [])], [])
set_option maxRecDepth 20000 in
abbrev xx_X11_changesOf_0 : scX := (Tm, invM, lnX11, [], cc_X11_changesOf_0)
set_option maxRecDepth 20000 in
theorem hh_X11_changesOf_0 : scH Tm invM cc_X11_changesOf_0 := scCheck_ok (X := xx_X11_changesOf_0) (nodes := [(6, ([((-2147483648), 2147483647), ((-2147483648), 2147483647), ((-2147483648), 2147483647), ((-2147483648), 2147483647), (0, 24), (0, 60), (0, 7), (0, 24)], [some (.inr (.inr (.inl [0]))), some (.inl (some 0, 0)), some (.inl (some 1, 0)), some (.inl (some 2, 0)), some (.inl (some 3, 0)), some (.inl (some 4, 0))], [], [((67, 2), (some 5, 0)), ((67, 0), (some 6, 0)), ((4, 1), (some 7, 0))]), ([0, 0, 0, 0, (-2)], 48))]) (fuel := 4000) ⟨lqX11, fa_nil⟩ dtX11_changesOf (by decide +kernel)
abbrev cc_X11_wrongBy_0 : scC := (qX11_wrongBy, 4, [((-2147483648), 2147483647), ((-2147483648), 2147483647), ((-2147483648), 2147483647), ((-2147483648), 2147483647), ((-2147483648), 2147483647)], [.inr (.inr (.inl [0])), .inl (some 0, 0), .inl (some 1, 0), .inl (some 2, 0), .inl (some 3, 0), .inl (some 4, 0)], [], [(1, (0, 64), [], [], [])], [(5, 0, 160), (6, 0, 5)])
set_option maxRecDepth 20000 in
abbrev xx_X11_wrongBy_0 : scX := (Tm, invM, lnX11, [(260, 0, 11, cc_hand_byLaw)], cc_X11_wrongBy_0)
set_option maxRecDepth 20000 in
theorem hh_X11_wrongBy_0 : scH Tm invM cc_X11_wrongBy_0 := scCheck_ok (X := xx_X11_wrongBy_0) (nodes := []) (fuel := 4000) ⟨lqX11, fa_cons (⟨⟨0, _, pcv_X11_260, rfl⟩, hh_hand_byLaw⟩) (fa_nil)⟩ dtX11_wrongBy (by decide +kernel)
abbrev cc_X11_wrongIn_0 : scC := (qX11_wrongIn, 5, [(0, 7), ((-1000), 200), (0, 200)], [.inr (.inr (.inl [0])), .inr (.inr (.inl [8])), .inl (some 0, 0), .inl (some 1, 0), .inl (some 2, 0)], [], [(1, (0, 64), [], [], [])], [(5, 0, 160), (6, 0, 5)])
set_option maxRecDepth 20000 in
abbrev xx_X11_wrongIn_0 : scX := (Tm, invM, lnX11, [(263, 0, 11, cc_X11_yearsOf_0), (266, 0, 11, cc_X11_isByDead_0), (270, 0, 11, cc_X11_changesOf_0), (273, 0, 11, cc_X11_wrongBy_0)], cc_X11_wrongIn_0)
set_option maxRecDepth 20000 in
theorem hh_X11_wrongIn_0 : scH Tm invM cc_X11_wrongIn_0 := scCheck_ok (X := xx_X11_wrongIn_0) (nodes := []) (fuel := 4000) ⟨lqX11, fa_cons (⟨⟨2, _, pcv_X11_263, rfl⟩, hh_X11_yearsOf_0⟩) (fa_cons (⟨⟨2, _, pcv_X11_266, rfl⟩, hh_X11_isByDead_0⟩) (fa_cons (⟨⟨3, _, pcv_X11_270, rfl⟩, hh_X11_changesOf_0⟩) (fa_cons (⟨⟨5, _, pcv_X11_273, rfl⟩, hh_X11_wrongBy_0⟩) (fa_nil))))⟩ dtX11_wrongIn (by decide +kernel)
abbrev cc_X11_costIn_0 : scC := (qX11_costIn, 6, [(0, 7), ((-1000), 200), (0, 200)], [.inr (.inr (.inl [0])), .inr (.inr (.inl [8])), .inl (some 0, 0), .inl (some 1, 0), .inl (some 2, 0)], [], [(1, (0, 57024), [], [], [])], [(5, 0, 160), (6, 0, 5)])
set_option maxRecDepth 20000 in
abbrev xx_X11_costIn_0 : scX := (Tm, invM, lnX11, [(276, 0, 11, cc_X11_wrongIn_0)], cc_X11_costIn_0)
set_option maxRecDepth 20000 in
theorem hh_X11_costIn_0 : scH Tm invM cc_X11_costIn_0 := scCheck_ok (X := xx_X11_costIn_0) (nodes := []) (fuel := 4000) ⟨lqX11, fa_cons (⟨⟨4, _, pcv_X11_276, rfl⟩, hh_X11_wrongIn_0⟩) (fa_nil)⟩ dtX11_costIn (by decide +kernel)
abbrev cc_X11_costOf_0 : scC := (qX11_costOf, 7, [(0, 7)], [.inr (.inr (.inl [0])), .inr (.inr (.inl [8])), .inl (some 0, 0)], [], [(1, (0, 57024), [], [], [])], [(5, 0, 160), (6, 0, 5)])
set_option maxRecDepth 20000 in
abbrev xx_X11_costOf_0 : scX := (Tm, invM, lnX11, [(256, 1, 0, cc_X11_has_0), (280, 0, 11, cc_X11_costIn_0)], cc_X11_costOf_0)
set_option maxRecDepth 20000 in
theorem hh_X11_costOf_0 : scH Tm invM cc_X11_costOf_0 := scCheck_ok (X := xx_X11_costOf_0) (nodes := []) (fuel := 4000) ⟨lqX11, fa_cons (⟨pcs_X11_256, hh_X11_has_0⟩) (fa_cons (⟨⟨4, _, pcv_X11_280, rfl⟩, hh_X11_costIn_0⟩) (fa_nil))⟩ dtX11_costOf (by decide +kernel)
abbrev cc_X11_saved_0 : scC := (qX11_saved, 8, [(0, 7)], [.inr (.inr (.inl [0])), .inr (.inr (.inl [8])), .inl (some 0, 0)], [], [(1, (0, 2147483647), [], [], [])], [(5, 0, 160), (6, 0, 5)])
set_option maxRecDepth 20000 in
abbrev xx_X11_saved_0 : scX := (Tm, invM, lnX11, [(280, 0, 11, cc_X11_costIn_0), (293, 0, 11, cc_X11_costOf_0), (296, 0, 11, cc_X11_mayWrite_0)], cc_X11_saved_0)
set_option maxRecDepth 20000 in
theorem hh_X11_saved_0 : scH Tm invM cc_X11_saved_0 := scCheck_ok (X := xx_X11_saved_0) (nodes := []) (fuel := 4000) ⟨lqX11, fa_cons (⟨⟨4, _, pcv_X11_280, rfl⟩, hh_X11_costIn_0⟩) (fa_cons (⟨⟨2, _, pcv_X11_293, rfl⟩, hh_X11_costOf_0⟩) (fa_cons (⟨⟨2, _, pcv_X11_296, rfl⟩, hh_X11_mayWrite_0⟩) (fa_nil)))⟩ dtX11_saved (by decide +kernel)
abbrev cc_X11_hasPiece_0 : scC := (qX11_hasPiece, 0, [(0, 7)], [.inr (.inr (.inl [8])), .inl (some 0, 0)], [], [(1, (0, 1), [], [], [])], [])
set_option maxRecDepth 20000 in
abbrev xx_X11_hasPiece_0 : scX := (Tm, invM, lnX11, [], cc_X11_hasPiece_0)
set_option maxRecDepth 20000 in
theorem hh_X11_hasPiece_0 : scH Tm invM cc_X11_hasPiece_0 := scCheck_ok (X := xx_X11_hasPiece_0) (nodes := []) (fuel := 4000) ⟨lqX11, fa_nil⟩ dtX11_hasPiece (by decide +kernel)
abbrev cc_X11_renewHours_0 : scC := (qX11_renewHours, 1, [(0, 7)], [.inr (.inr (.inl [0])), .inl (some 0, 0)], [], [(1, (1, 9), [], [], [])], [])
set_option maxRecDepth 20000 in
abbrev xx_X11_renewHours_0 : scX := (Tm, invM, lnX11, [], cc_X11_renewHours_0)
set_option maxRecDepth 20000 in
theorem hh_X11_renewHours_0 : scH Tm invM cc_X11_renewHours_0 := scCheck_ok (X := xx_X11_renewHours_0) (nodes := []) (fuel := 4000) ⟨lqX11, fa_nil⟩ dtX11_renewHours (by decide +kernel)
abbrev cc_X11_hoursFor_0 : scC := (qX11_hoursFor, 2, [(0, 7)], [.inr (.inr (.inl [0])), .inr (.inr (.inl [8])), .inl (some 0, 0)], [], [(1, (0, 9), [], [], [])], [])
set_option maxRecDepth 20000 in
abbrev xx_X11_hoursFor_0 : scX := (Tm, invM, lnX11, [(283, 1, 0, cc_X11_hasPiece_0), (287, 0, 11, cc_X11_renewHours_0)], cc_X11_hoursFor_0)
set_option maxRecDepth 20000 in
theorem hh_X11_hoursFor_0 : scH Tm invM cc_X11_hoursFor_0 := scCheck_ok (X := xx_X11_hoursFor_0) (nodes := []) (fuel := 4000) ⟨lqX11, fa_cons (⟨pcs_X11_283, hh_X11_hasPiece_0⟩) (fa_cons (⟨⟨1, _, pcv_X11_287, rfl⟩, hh_X11_renewHours_0⟩) (fa_nil))⟩ dtX11_hoursFor (by decide +kernel)
abbrev cc_X11_dies_0 : scC := (qX11_dies, 8, [(0, 7)], [.inr (.inr (.inl [0])), .inr (.inr (.inl [8])), .inl (some 0, 0)], [], [(0, (0, 0), [], [], [])], [(5, 0, 160), (6, 0, 5), (8, 0, 10), (8, 11, 3)])
set_option maxRecDepth 20000 in
abbrev xx_X11_dies_0 : scX := (Tm, invM, lnX11, [(283, 1, 0, cc_X11_hasPiece_0), (293, 0, 11, cc_X11_costOf_0)], cc_X11_dies_0)
set_option maxRecDepth 20000 in
theorem hh_X11_dies_0 : scH Tm invM cc_X11_dies_0 := scCheck_ok (X := xx_X11_dies_0) (nodes := []) (fuel := 4000) ⟨lqX11, fa_cons (⟨pcs_X11_283, hh_X11_hasPiece_0⟩) (fa_cons (⟨⟨2, _, pcv_X11_293, rfl⟩, hh_X11_costOf_0⟩) (fa_nil))⟩ dtX11_dies (by decide +kernel)
abbrev cc_X11_copies_0 : scC := (qX11_copies, 0, [], [.inr (.inr (.inl [7])), .inr (.inr (.inl [8]))], [], [(0, (0, 0), [], [], [])], [(8, 0, 14)])
set_option maxRecDepth 20000 in
abbrev xx_X11_copies_0 : scX := (Tm, invM, lnX11, [], cc_X11_copies_0)
set_option maxRecDepth 20000 in
theorem hh_X11_copies_0 : scH Tm invM cc_X11_copies_0 := scCheck_ok (X := xx_X11_copies_0) (nodes := []) (fuel := 4000) ⟨lqX11, fa_nil⟩ dtX11_copies (by decide +kernel)
abbrev cc_X11_weekEnds_0 : scC := (qX11_weekEnds, 0, [], [.inr (.inr (.inl [0])), .inr (.inr (.inl [8]))], [], [(1, (0, 1), [], [], [])], [(8, 9, 2)])
set_option maxRecDepth 20000 in
abbrev xx_X11_weekEnds_0 : scX := (Tm, invM, lnX11, [], cc_X11_weekEnds_0)
set_option maxRecDepth 20000 in
theorem hh_X11_weekEnds_0 : scH Tm invM cc_X11_weekEnds_0 := scCheck_ok (X := xx_X11_weekEnds_0) (nodes := []) (fuel := 4000) ⟨lqX11, fa_nil⟩ dtX11_weekEnds (by decide +kernel)
abbrev cc_X11_isByDead_1 : scC := (qX11_isByDead, 1, [(0, 7)], [.inr (.inr (.inl [0])), .inr (.inr (.inl [7])), .inl (some 0, 0)], [], [(1, (0, 1), [], [], [])], [])
set_option maxRecDepth 20000 in
abbrev xx_X11_isByDead_1 : scX := (Tm, invM, lnX11, [(256, 1, 0, cc_X11_has_0)], cc_X11_isByDead_1)
set_option maxRecDepth 20000 in
theorem hh_X11_isByDead_1 : scH Tm invM cc_X11_isByDead_1 := scCheck_ok (X := xx_X11_isByDead_1) (nodes := []) (fuel := 4000) ⟨lqX11, fa_cons (⟨pcs_X11_256, hh_X11_has_0⟩) (fa_nil)⟩ dtX11_isByDead (by decide +kernel)
abbrev cc_X11_wrongIn_1 : scC := (qX11_wrongIn, 5, [(0, 7), ((-1000), 200), (0, 200)], [.inr (.inr (.inl [0])), .inr (.inr (.inl [7])), .inl (some 0, 0), .inl (some 1, 0), .inl (some 2, 0)], [], [(1, (0, 64), [], [], [])], [(5, 0, 160), (6, 0, 5)])
set_option maxRecDepth 20000 in
abbrev xx_X11_wrongIn_1 : scX := (Tm, invM, lnX11, [(263, 0, 11, cc_X11_yearsOf_0), (266, 0, 11, cc_X11_isByDead_1), (270, 0, 11, cc_X11_changesOf_0), (273, 0, 11, cc_X11_wrongBy_0)], cc_X11_wrongIn_1)
set_option maxRecDepth 20000 in
theorem hh_X11_wrongIn_1 : scH Tm invM cc_X11_wrongIn_1 := scCheck_ok (X := xx_X11_wrongIn_1) (nodes := []) (fuel := 4000) ⟨lqX11, fa_cons (⟨⟨2, _, pcv_X11_263, rfl⟩, hh_X11_yearsOf_0⟩) (fa_cons (⟨⟨2, _, pcv_X11_266, rfl⟩, hh_X11_isByDead_1⟩) (fa_cons (⟨⟨3, _, pcv_X11_270, rfl⟩, hh_X11_changesOf_0⟩) (fa_cons (⟨⟨5, _, pcv_X11_273, rfl⟩, hh_X11_wrongBy_0⟩) (fa_nil))))⟩ dtX11_wrongIn (by decide +kernel)
abbrev cc_X11_costIn_1 : scC := (qX11_costIn, 6, [(0, 7), ((-1000), 200), (0, 200)], [.inr (.inr (.inl [0])), .inr (.inr (.inl [7])), .inl (some 0, 0), .inl (some 1, 0), .inl (some 2, 0)], [], [(1, (0, 57024), [], [], [])], [(5, 0, 160), (6, 0, 5)])
set_option maxRecDepth 20000 in
abbrev xx_X11_costIn_1 : scX := (Tm, invM, lnX11, [(276, 0, 11, cc_X11_wrongIn_1)], cc_X11_costIn_1)
set_option maxRecDepth 20000 in
theorem hh_X11_costIn_1 : scH Tm invM cc_X11_costIn_1 := scCheck_ok (X := xx_X11_costIn_1) (nodes := []) (fuel := 4000) ⟨lqX11, fa_cons (⟨⟨4, _, pcv_X11_276, rfl⟩, hh_X11_wrongIn_1⟩) (fa_nil)⟩ dtX11_costIn (by decide +kernel)
abbrev cc_X11_costOf_1 : scC := (qX11_costOf, 7, [(0, 7)], [.inr (.inr (.inl [0])), .inr (.inr (.inl [7])), .inl (some 0, 0)], [], [(1, (0, 57024), [], [], [])], [(5, 0, 160), (6, 0, 5)])
set_option maxRecDepth 20000 in
abbrev xx_X11_costOf_1 : scX := (Tm, invM, lnX11, [(256, 1, 0, cc_X11_has_0), (280, 0, 11, cc_X11_costIn_1)], cc_X11_costOf_1)
set_option maxRecDepth 20000 in
theorem hh_X11_costOf_1 : scH Tm invM cc_X11_costOf_1 := scCheck_ok (X := xx_X11_costOf_1) (nodes := []) (fuel := 4000) ⟨lqX11, fa_cons (⟨pcs_X11_256, hh_X11_has_0⟩) (fa_cons (⟨⟨4, _, pcv_X11_280, rfl⟩, hh_X11_costIn_1⟩) (fa_nil))⟩ dtX11_costOf (by decide +kernel)
abbrev cc_X11_hasPiece_1 : scC := (qX11_hasPiece, 0, [(0, 7)], [.inr (.inr (.inl [7])), .inl (some 0, 0)], [], [(1, (0, 1), [], [], [])], [])
set_option maxRecDepth 20000 in
abbrev xx_X11_hasPiece_1 : scX := (Tm, invM, lnX11, [], cc_X11_hasPiece_1)
set_option maxRecDepth 20000 in
theorem hh_X11_hasPiece_1 : scH Tm invM cc_X11_hasPiece_1 := scCheck_ok (X := xx_X11_hasPiece_1) (nodes := []) (fuel := 4000) ⟨lqX11, fa_nil⟩ dtX11_hasPiece (by decide +kernel)
abbrev cc_X11_dies_1 : scC := (qX11_dies, 8, [(0, 7)], [.inr (.inr (.inl [0])), .inr (.inr (.inl [7])), .inl (some 0, 0)], [], [(0, (0, 0), [], [], [])], [(5, 0, 160), (6, 0, 5), (7, 0, 10), (7, 11, 3)])
set_option maxRecDepth 20000 in
abbrev xx_X11_dies_1 : scX := (Tm, invM, lnX11, [(283, 1, 0, cc_X11_hasPiece_1), (293, 0, 11, cc_X11_costOf_1)], cc_X11_dies_1)
set_option maxRecDepth 20000 in
theorem hh_X11_dies_1 : scH Tm invM cc_X11_dies_1 := scCheck_ok (X := xx_X11_dies_1) (nodes := []) (fuel := 4000) ⟨lqX11, fa_cons (⟨pcs_X11_283, hh_X11_hasPiece_1⟩) (fa_cons (⟨⟨2, _, pcv_X11_293, rfl⟩, hh_X11_costOf_1⟩) (fa_nil))⟩ dtX11_dies (by decide +kernel)
abbrev cc_X11_weekEnds_1 : scC := (qX11_weekEnds, 0, [], [.inr (.inr (.inl [0])), .inr (.inr (.inl [7]))], [], [(1, (0, 1), [], [], [])], [(7, 9, 2)])
set_option maxRecDepth 20000 in
abbrev xx_X11_weekEnds_1 : scX := (Tm, invM, lnX11, [], cc_X11_weekEnds_1)
set_option maxRecDepth 20000 in
theorem hh_X11_weekEnds_1 : scH Tm invM cc_X11_weekEnds_1 := scCheck_ok (X := xx_X11_weekEnds_1) (nodes := []) (fuel := 4000) ⟨lqX11, fa_nil⟩ dtX11_weekEnds (by decide +kernel)
abbrev cc_X11_copies_1 : scC := (qX11_copies, 0, [], [.inr (.inr (.inl [7])), .inr (.inr (.inl [503, 504, 505, 506, 507, 508, 509, 510, 511, 512, 513, 514, 515, 516, 517, 518]))], [], [(0, (0, 0), [], [], [])], [(503, 0, 14), (504, 0, 14), (505, 0, 14), (506, 0, 14), (507, 0, 14), (508, 0, 14), (509, 0, 14), (510, 0, 14), (511, 0, 14), (512, 0, 14), (513, 0, 14), (514, 0, 14), (515, 0, 14), (516, 0, 14), (517, 0, 14), (518, 0, 14)])
set_option maxRecDepth 20000 in
abbrev xx_X11_copies_1 : scX := (Tm, invM, lnX11, [], cc_X11_copies_1)
set_option maxRecDepth 20000 in
theorem hh_X11_copies_1 : scH Tm invM cc_X11_copies_1 := scCheck_ok (X := xx_X11_copies_1) (nodes := []) (fuel := 4000) ⟨lqX11, fa_nil⟩ dtX11_copies (by decide +kernel)
