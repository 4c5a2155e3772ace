abbrev cc_X6_copyFrom_12 : scC := (qX6_copyFrom, 0, [], [.inr (.inr (.inl [50, 51])), .inr (.inr (.inl [86, 87, 122, 123, 158, 159]))], [], [(0, (0, 0), [], [], [])], [(50, 1, 6), (51, 1, 6), (66, 0, 8), (67, 0, 8)])
set_option maxRecDepth 20000 in
abbrev xx_X6_copyFrom_12 : scX := (Tx, invX, lnX6, [], cc_X6_copyFrom_12)
set_option maxRecDepth 20000 in
theorem hh_X6_copyFrom_12 : scH Tx invX cc_X6_copyFrom_12 := scCheck_ok (X := xx_X6_copyFrom_12) (nodes := []) (fuel := 4000) ⟨lkX6.1, lkX6.2, fa_nil, na_copy⟩ (by decide +kernel) dtX6_copyFrom (by decide +kernel)
abbrev cc_X6_copyFrom_13 : scC := (qX6_copyFrom, 0, [], [.inr (.inr (.inl [50, 51, 52])), .inr (.inr (.inl [86, 87, 88, 122, 123, 124, 158, 159, 160]))], [], [(0, (0, 0), [], [], [])], [(50, 1, 6), (51, 1, 6), (52, 1, 6), (66, 0, 8), (67, 0, 8), (68, 0, 8)])
set_option maxRecDepth 20000 in
abbrev xx_X6_copyFrom_13 : scX := (Tx, invX, lnX6, [], cc_X6_copyFrom_13)
set_option maxRecDepth 20000 in
theorem hh_X6_copyFrom_13 : scH Tx invX cc_X6_copyFrom_13 := scCheck_ok (X := xx_X6_copyFrom_13) (nodes := []) (fuel := 4000) ⟨lkX6.1, lkX6.2, fa_nil, na_copy⟩ (by decide +kernel) dtX6_copyFrom (by decide +kernel)
abbrev cc_X6_copyFrom_14 : scC := (qX6_copyFrom, 0, [], [.inr (.inr (.inl [50, 51, 52, 53, 54, 55, 56, 57])), .inr (.inr (.inl [86, 87, 88, 89, 90, 91, 92, 93, 122, 123, 124, 125, 126, 127, 128, 129, 158, 159, 160, 161, 162, 163, 164, 165]))], [], [(0, (0, 0), [], [], [])], [(50, 1, 6), (51, 1, 6), (52, 1, 6), (53, 1, 6), (54, 1, 6), (55, 1, 6), (56, 1, 6), (57, 1, 6), (66, 0, 8), (67, 0, 8), (68, 0, 8), (69, 0, 8), (70, 0, 8), (71, 0, 8), (72, 0, 8), (73, 0, 8)])
set_option maxRecDepth 20000 in
abbrev xx_X6_copyFrom_14 : scX := (Tx, invX, lnX6, [], cc_X6_copyFrom_14)
set_option maxRecDepth 20000 in
theorem hh_X6_copyFrom_14 : scH Tx invX cc_X6_copyFrom_14 := scCheck_ok (X := xx_X6_copyFrom_14) (nodes := []) (fuel := 4000) ⟨lkX6.1, lkX6.2, fa_nil, na_copy⟩ (by decide +kernel) dtX6_copyFrom (by decide +kernel)
abbrev cc_X6_copyFrom_15 : scC := (qX6_copyFrom, 0, [], [.inr (.inr (.inl [50, 51, 52, 53, 54, 55, 56, 57, 58])), .inr (.inr (.inl [86, 87, 88, 89, 90, 91, 92, 93, 94, 122, 123, 124, 125, 126, 127, 128, 129, 130, 158, 159, 160, 161, 162, 163, 164, 165, 166]))], [], [(0, (0, 0), [], [], [])], [(50, 1, 6), (51, 1, 6), (52, 1, 6), (53, 1, 6), (54, 1, 6), (55, 1, 6), (56, 1, 6), (57, 1, 6), (58, 1, 6), (66, 0, 8), (67, 0, 8), (68, 0, 8), (69, 0, 8), (70, 0, 8), (71, 0, 8), (72, 0, 8), (73, 0, 8), (74, 0, 8)])
set_option maxRecDepth 20000 in
abbrev xx_X6_copyFrom_15 : scX := (Tx, invX, lnX6, [], cc_X6_copyFrom_15)
set_option maxRecDepth 20000 in
theorem hh_X6_copyFrom_15 : scH Tx invX cc_X6_copyFrom_15 := scCheck_ok (X := xx_X6_copyFrom_15) (nodes := []) (fuel := 4000) ⟨lkX6.1, lkX6.2, fa_nil, na_copy⟩ (by decide +kernel) dtX6_copyFrom (by decide +kernel)
abbrev cc_X6_copyFrom_16 : scC := (qX6_copyFrom, 0, [], [.inr (.inr (.inl [50, 51, 52, 53, 54, 55, 56, 57, 58, 59, 60, 61, 62, 63, 64, 65])), .inr (.inr (.inl [86, 87, 88, 89, 90, 91, 92, 93, 94, 95, 96, 97, 98, 99, 100, 101, 122, 123, 124, 125, 126, 127, 128, 129, 130, 131, 132, 133, 134, 135, 136, 137, 158, 159, 160, 161, 162, 163, 164, 165, 166, 167, 168, 169, 170, 171, 172, 173]))], [], [(0, (0, 0), [], [], [])], [(50, 1, 6), (51, 1, 6), (52, 1, 6), (53, 1, 6), (54, 1, 6), (55, 1, 6), (56, 1, 6), (57, 1, 6), (58, 1, 6), (59, 1, 6), (60, 1, 6), (61, 1, 6), (62, 1, 6), (63, 1, 6), (64, 1, 6), (65, 1, 6), (66, 0, 8), (67, 0, 8), (68, 0, 8), (69, 0, 8), (70, 0, 8), (71, 0, 8), (72, 0, 8), (73, 0, 8), (74, 0, 8), (75, 0, 8), (76, 0, 8), (77, 0, 8), (78, 0, 8), (79, 0, 8), (80, 0, 8), (81, 0, 8)])
set_option maxRecDepth 20000 in
abbrev xx_X6_copyFrom_16 : scX := (Tx, invX, lnX6, [], cc_X6_copyFrom_16)
set_option maxRecDepth 20000 in
theorem hh_X6_copyFrom_16 : scH Tx invX cc_X6_copyFrom_16 := scCheck_ok (X := xx_X6_copyFrom_16) (nodes := []) (fuel := 4000) ⟨lkX6.1, lkX6.2, fa_nil, na_copy⟩ (by decide +kernel) dtX6_copyFrom (by decide +kernel)
abbrev cc_X5_copyFrom_1 : scC := (qX5_copyFrom, 1, [], [.inr (.inr (.inl [46])), .inr (.inr (.inl [82, 118, 154]))], [], [(0, (0, 0), [], [], [])], [(46, 2, 1), (47, 1, 6), (48, 0, 8), (50, 1, 6), (51, 1, 6), (52, 1, 6), (53, 1, 6), (54, 1, 6), (55, 1, 6), (56, 1, 6), (57, 1, 6), (58, 1, 6), (59, 1, 6), (60, 1, 6), (61, 1, 6), (62, 1, 6), (63, 1, 6), (64, 1, 6), (65, 1, 6), (66, 0, 8), (67, 0, 8), (68, 0, 8), (69, 0, 8), (70, 0, 8), (71, 0, 8), (72, 0, 8), (73, 0, 8), (74, 0, 8), (75, 0, 8), (76, 0, 8), (77, 0, 8), (78, 0, 8), (79, 0, 8), (80, 0, 8), (81, 0, 8)])
set_option maxRecDepth 20000 in
abbrev xx_X5_copyFrom_1 : scX := (Tx, invX, lnX5, [(26, 0, 6, cc_X6_copyFrom_10), (26, 0, 6, cc_X6_copyFrom_11), (26, 0, 6, cc_X6_copyFrom_12), (26, 0, 6, cc_X6_copyFrom_13), (26, 0, 6, cc_X6_copyFrom_14), (26, 0, 6, cc_X6_copyFrom_15), (26, 0, 6, cc_X6_copyFrom_16)], cc_X5_copyFrom_1)
set_option maxRecDepth 20000 in
theorem hh_X5_copyFrom_1 : scH Tx invX cc_X5_copyFrom_1 := scCheck_ok (X := xx_X5_copyFrom_1) (nodes := [(21, ([(0, 16), (0, 16)], [some (.inr (.inr (.inl [46]))), some (.inr (.inr (.inl [82, 118, 154]))), some (.inl (some 0, 0))], [], [((46, 2), (some 1, 0))]), ([(-2)], 32))]) (fuel := 4000) ⟨lkX5.1, lkX5.2, fa_cons (⟨⟨1, cv_X5_26, rfl⟩, hh_X6_copyFrom_10⟩) (fa_cons (⟨⟨1, cv_X5_26, rfl⟩, hh_X6_copyFrom_11⟩) (fa_cons (⟨⟨1, cv_X5_26, rfl⟩, hh_X6_copyFrom_12⟩) (fa_cons (⟨⟨1, cv_X5_26, rfl⟩, hh_X6_copyFrom_13⟩) (fa_cons (⟨⟨1, cv_X5_26, rfl⟩, hh_X6_copyFrom_14⟩) (fa_cons (⟨⟨1, cv_X5_26, rfl⟩, hh_X6_copyFrom_15⟩) (fa_cons (⟨⟨1, cv_X5_26, rfl⟩, hh_X6_copyFrom_16⟩) (fa_nil))))))), na_copy⟩ (by decide +kernel) dtX5_copyFrom (by decide +kernel)
abbrev cc_X10_restore_0 : scC := (qX10_restore, 2, [], [.inr (.inr (.inl [0]))], [], [(1, ((-1), 2), [], [], [])], [(0, 13, 2), (34, 5, 1), (46, 2, 1), (47, 1, 6), (48, 0, 8), (50, 1, 6), (51, 1, 6), (52, 1, 6), (53, 1, 6), (54, 1, 6), (55, 1, 6), (56, 1, 6), (57, 1, 6), (58, 1, 6), (59, 1, 6), (60, 1, 6), (61, 1, 6), (62, 1, 6), (63, 1, 6), (64, 1, 6), (65, 1, 6), (66, 0, 8), (67, 0, 8), (68, 0, 8), (69, 0, 8), (70, 0, 8), (71, 0, 8), (72, 0, 8), (73, 0, 8), (74, 0, 8), (75, 0, 8), (76, 0, 8), (77, 0, 8), (78, 0, 8), (79, 0, 8), (80, 0, 8), (81, 0, 8)])
set_option maxRecDepth 20000 in
abbrev xx_X10_restore_0 : scX := (Tx, invX, lnX10, [(135, 0, 3, cc_X3_forget_0), (360, 0, 5, cc_X5_copyFrom_1)], cc_X10_restore_0)
set_option maxRecDepth 20000 in
theorem hh_X10_restore_0 : scH Tx invX cc_X10_restore_0 := scCheck_ok (X := xx_X10_restore_0) (nodes := []) (fuel := 4000) ⟨lkX10.1, lkX10.2, fa_cons (⟨⟨0, cv_X10_135, rfl⟩, hh_X3_forget_0⟩) (fa_cons (⟨⟨1, cv_X10_360, rfl⟩, hh_X5_copyFrom_1⟩) (fa_nil)), na_copy⟩ (by decide +kernel) dtX10_restore (by decide +kernel)
abbrev cc_X10_count_0 : scC := (qX10_count, 0, [((-2147483648), 2147483647)], [.inr (.inr (.inl [0])), .inl (some 0, 0)], [], [(1, ((-1), 600), [], [], [])], [])
set_option maxRecDepth 20000 in
abbrev xx_X10_count_0 : scX := (Tx, invX, lnX10, [], cc_X10_count_0)
set_option maxRecDepth 20000 in
theorem hh_X10_count_0 : scH Tx invX cc_X10_count_0 := scCheck_ok (X := xx_X10_count_0) (nodes := []) (fuel := 4000) ⟨lkX10.1, lkX10.2, fa_nil, na_copy⟩ (by decide +kernel) dtX10_count (by decide +kernel)
