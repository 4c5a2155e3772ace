abbrev cc_X5_copyFrom_1 : scC := (qX5_copyFrom, 1, [], [.inr (.inr (.inl [46])), .inr (.inr (.inl [82, 118, 154]))], [], [(0, (0, 0), [], [], [])], [(46, 2, 1), (47, 1, 6), (48, 0, 8), (50, 1, 6), (51, 1, 6), (52, 1, 6), (53, 1, 6), (54, 1, 6), (55, 1, 6), (56, 1, 6), (57, 1, 6), (58, 1, 6), (59, 1, 6), (60, 1, 6), (61, 1, 6), (62, 1, 6), (63, 1, 6), (64, 1, 6), (65, 1, 6), (66, 0, 8), (67, 0, 8), (68, 0, 8), (69, 0, 8), (70, 0, 8), (71, 0, 8), (72, 0, 8), (73, 0, 8), (74, 0, 8), (75, 0, 8), (76, 0, 8), (77, 0, 8), (78, 0, 8), (79, 0, 8), (80, 0, 8), (81, 0, 8)])
set_option maxRecDepth 20000 in
abbrev xx_X5_copyFrom_1 : scX := (Tx, invX, lnX5, [(26, 0, 6, cc_X6_copyFrom_9), (26, 0, 6, cc_X6_copyFrom_10), (26, 0, 6, cc_X6_copyFrom_11), (26, 0, 6, cc_X6_copyFrom_12), (26, 0, 6, cc_X6_copyFrom_13), (26, 0, 6, cc_X6_copyFrom_14), (26, 0, 6, cc_X6_copyFrom_15)], cc_X5_copyFrom_1)
set_option maxRecDepth 20000 in
theorem hh_X5_copyFrom_1 : scH Tx invX cc_X5_copyFrom_1 := scCheck_ok (X := xx_X5_copyFrom_1) (nodes := [(21, ([(0, 16), (0, 16)], [some (.inr (.inr (.inl [46]))), some (.inr (.inr (.inl [82, 118, 154]))), some (.inl (some 0, 0))], [], [((46, 2), (some 1, 0))]), ([(-2)], 32))]) (fuel := 4000) ⟨lqX5, fa_cons (⟨⟨1, _, pcv_X5_26, rfl⟩, hh_X6_copyFrom_9⟩) (fa_cons (⟨⟨1, _, pcv_X5_26, rfl⟩, hh_X6_copyFrom_10⟩) (fa_cons (⟨⟨1, _, pcv_X5_26, rfl⟩, hh_X6_copyFrom_11⟩) (fa_cons (⟨⟨1, _, pcv_X5_26, rfl⟩, hh_X6_copyFrom_12⟩) (fa_cons (⟨⟨1, _, pcv_X5_26, rfl⟩, hh_X6_copyFrom_13⟩) (fa_cons (⟨⟨1, _, pcv_X5_26, rfl⟩, hh_X6_copyFrom_14⟩) (fa_cons (⟨⟨1, _, pcv_X5_26, rfl⟩, hh_X6_copyFrom_15⟩) (fa_nil)))))))⟩ dtX5_copyFrom (by decide +kernel)
abbrev cc_X10_restore_0 : scC := (qX10_restore, 2, [], [.inr (.inr (.inl [0]))], [], [(1, ((-1), 2), [], [], [])], [(0, 13, 2), (34, 5, 1), (46, 2, 1), (47, 1, 6), (48, 0, 8), (50, 1, 6), (51, 1, 6), (52, 1, 6), (53, 1, 6), (54, 1, 6), (55, 1, 6), (56, 1, 6), (57, 1, 6), (58, 1, 6), (59, 1, 6), (60, 1, 6), (61, 1, 6), (62, 1, 6), (63, 1, 6), (64, 1, 6), (65, 1, 6), (66, 0, 8), (67, 0, 8), (68, 0, 8), (69, 0, 8), (70, 0, 8), (71, 0, 8), (72, 0, 8), (73, 0, 8), (74, 0, 8), (75, 0, 8), (76, 0, 8), (77, 0, 8), (78, 0, 8), (79, 0, 8), (80, 0, 8), (81, 0, 8)])
set_option maxRecDepth 20000 in
abbrev xx_X10_restore_0 : scX := (Tx, invX, lnX10, [(135, 0, 3, cc_X3_forget_0), (360, 0, 5, cc_X5_copyFrom_1)], cc_X10_restore_0)
set_option maxRecDepth 20000 in
theorem hh_X10_restore_0 : scH Tx invX cc_X10_restore_0 := scCheck_ok (X := xx_X10_restore_0) (nodes := []) (fuel := 4000) ⟨lqX10, fa_cons (⟨⟨0, _, pcv_X10_135, rfl⟩, hh_X3_forget_0⟩) (fa_cons (⟨⟨1, _, pcv_X10_360, rfl⟩, hh_X5_copyFrom_1⟩) (fa_nil))⟩ dtX10_restore (by decide +kernel)
abbrev cc_X10_status_0 : scC := (qX10_status, 0, [((-2147483648), 2147483647)], [.inr (.inr (.inl [0])), .inl (some 0, 0)], [], [(1, ((-2147483648), 2147483647), [], [], [])], [])
set_option maxRecDepth 20000 in
abbrev xx_X10_status_0 : scX := (Tx, invX, lnX10, [], cc_X10_status_0)
set_option maxRecDepth 20000 in
theorem hh_X10_status_0 : scH Tx invX cc_X10_status_0 := scCheck_ok (X := xx_X10_status_0) (nodes := []) (fuel := 4000) ⟨lqX10, fa_nil⟩ dtX10_status (by decide +kernel)
abbrev cc_X10_count_0 : scC := (qX10_count, 0, [((-2147483648), 2147483647)], [.inr (.inr (.inl [0])), .inl (some 0, 0)], [], [(1, ((-1), 600), [], [], [])], [])
set_option maxRecDepth 20000 in
abbrev xx_X10_count_0 : scX := (Tx, invX, lnX10, [], cc_X10_count_0)
set_option maxRecDepth 20000 in
theorem hh_X10_count_0 : scH Tx invX cc_X10_count_0 := scCheck_ok (X := xx_X10_count_0) (nodes := []) (fuel := 4000) ⟨lqX10, fa_nil⟩ dtX10_count (by decide +kernel)
