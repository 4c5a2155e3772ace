abbrev cc_X6_copyFrom_14 : scC := (qX6_copyFrom, 0, [], [.inr (.inr (.inl [50, 51, 52, 53, 54, 55, 56, 57, 58])), .inr (.inr (.inl [86, 87, 88, 89, 90, 91, 92, 93, 94, 122, 123, 124, 125, 126, 127, 128, 129, 130, 158, 159, 160, 161, 162, 163, 164, 165, 166]))], [], [(0, (0, 0), [], [], [])], [(50, 1, 6), (51, 1, 6), (52, 1, 6), (53, 1, 6), (54, 1, 6), (55, 1, 6), (56, 1, 6), (57, 1, 6), (58, 1, 6), (66, 0, 8), (67, 0, 8), (68, 0, 8), (69, 0, 8), (70, 0, 8), (71, 0, 8), (72, 0, 8), (73, 0, 8), (74, 0, 8)])
set_option maxRecDepth 20000 in
abbrev xx_X6_copyFrom_14 : scX := (Tx, invX, lnX6, [], cc_X6_copyFrom_14)
set_option maxRecDepth 20000 in
theorem hh_X6_copyFrom_14 : scH Tx invX cc_X6_copyFrom_14 := scCheck_ok (X := xx_X6_copyFrom_14) (nodes := []) (fuel := 4000) ⟨lqX6, fa_nil⟩ dtX6_copyFrom (by decide +kernel)
abbrev cc_X6_copyFrom_15 : scC := (qX6_copyFrom, 0, [], [.inr (.inr (.inl [50, 51, 52, 53, 54, 55, 56, 57, 58, 59, 60, 61, 62, 63, 64, 65])), .inr (.inr (.inl [86, 87, 88, 89, 90, 91, 92, 93, 94, 95, 96, 97, 98, 99, 100, 101, 122, 123, 124, 125, 126, 127, 128, 129, 130, 131, 132, 133, 134, 135, 136, 137, 158, 159, 160, 161, 162, 163, 164, 165, 166, 167, 168, 169, 170, 171, 172, 173]))], [], [(0, (0, 0), [], [], [])], [(50, 1, 6), (51, 1, 6), (52, 1, 6), (53, 1, 6), (54, 1, 6), (55, 1, 6), (56, 1, 6), (57, 1, 6), (58, 1, 6), (59, 1, 6), (60, 1, 6), (61, 1, 6), (62, 1, 6), (63, 1, 6), (64, 1, 6), (65, 1, 6), (66, 0, 8), (67, 0, 8), (68, 0, 8), (69, 0, 8), (70, 0, 8), (71, 0, 8), (72, 0, 8), (73, 0, 8), (74, 0, 8), (75, 0, 8), (76, 0, 8), (77, 0, 8), (78, 0, 8), (79, 0, 8), (80, 0, 8), (81, 0, 8)])
set_option maxRecDepth 20000 in
abbrev xx_X6_copyFrom_15 : scX := (Tx, invX, lnX6, [], cc_X6_copyFrom_15)
set_option maxRecDepth 20000 in
theorem hh_X6_copyFrom_15 : scH Tx invX cc_X6_copyFrom_15 := scCheck_ok (X := xx_X6_copyFrom_15) (nodes := []) (fuel := 4000) ⟨lqX6, fa_nil⟩ dtX6_copyFrom (by decide +kernel)
abbrev cc_X5_copyFrom_1 : scC := (qX5_copyFrom, 1, [], [.inr (.inr (.inl [46])), .inr (.inr (.inl [82, 118, 154]))], [], [(0, (0, 0), [], [], [])], [(46, 2, 1), (47, 1, 6), (48, 0, 8), (50, 1, 6), (51, 1, 6), (52, 1, 6), (53, 1, 6), (54, 1, 6), (55, 1, 6), (56, 1, 6), (57, 1, 6), (58, 1, 6), (59, 1, 6), (60, 1, 6), (61, 1, 6), (62, 1, 6), (63, 1, 6), (64, 1, 6), (65, 1, 6), (66, 0, 8), (67, 0, 8), (68, 0, 8), (69, 0, 8), (70, 0, 8), (71, 0, 8), (72, 0, 8), (73, 0, 8), (74, 0, 8), (75, 0, 8), (76, 0, 8), (77, 0, 8), (78, 0, 8), (79, 0, 8), (80, 0, 8), (81, 0, 8)])
set_option maxRecDepth 20000 in
abbrev xx_X5_copyFrom_1 : scX := (Tx, invX, lnX5, [(26, 0, 6, cc_X6_copyFrom_9), (26, 0, 6, cc_X6_copyFrom_10), (26, 0, 6, cc_X6_copyFrom_11), (26, 0, 6, cc_X6_copyFrom_12), (26, 0, 6, cc_X6_copyFrom_13), (26, 0, 6, cc_X6_copyFrom_14), (26, 0, 6, cc_X6_copyFrom_15)], cc_X5_copyFrom_1)
set_option maxRecDepth 20000 in
theorem hh_X5_copyFrom_1 : scH Tx invX cc_X5_copyFrom_1 := scCheck_ok (X := xx_X5_copyFrom_1) (nodes := [(21, ([(0, 16), (0, 16)], [some (.inr (.inr (.inl [46]))), some (.inr (.inr (.inl [82, 118, 154]))), some (.inl (some 0, 0))], [], [((46, 2), (some 1, 0))]), ([(-2)], 32))]) (fuel := 4000) ⟨lqX5, fa_cons (⟨⟨1, _, pcv_X5_26, rfl⟩, hh_X6_copyFrom_9⟩) (fa_cons (⟨⟨1, _, pcv_X5_26, rfl⟩, hh_X6_copyFrom_10⟩) (fa_cons (⟨⟨1, _, pcv_X5_26, rfl⟩, hh_X6_copyFrom_11⟩) (fa_cons (⟨⟨1, _, pcv_X5_26, rfl⟩, hh_X6_copyFrom_12⟩) (fa_cons (⟨⟨1, _, pcv_X5_26, rfl⟩, hh_X6_copyFrom_13⟩) (fa_cons (⟨⟨1, _, pcv_X5_26, rfl⟩, hh_X6_copyFrom_14⟩) (fa_cons (⟨⟨1, _, pcv_X5_26, rfl⟩, hh_X6_copyFrom_15⟩) (fa_nil)))))))⟩ dtX5_copyFrom (by decide +kernel)
abbrev cc_X10_restore_0 : scC := (qX10_restore, 2, [], [.inr (.inr (.inl [0]))], [], [(1, ((-1), 2), [], [], [])], [(0, 13, 2), (34, 5, 1), (46, 2, 1), (47, 1, 6), (48, 0, 8), (50, 1, 6), (51, 1, 6), (52, 1, 6), (53, 1, 6), (54, 1, 6), (55, 1, 6), (56, 1, 6), (57, 1, 6), (58, 1, 6), (59, 1, 6), (60, 1, 6), (61, 1, 6), (62, 1, 6), (63, 1, 6), (64, 1, 6), (65, 1, 6), (66, 0, 8), (67, 0, 8), (68, 0, 8), (69, 0, 8), (70, 0, 8), (71, 0, 8), (72, 0, 8), (73, 0, 8), (74, 0, 8), (75, 0, 8), (76, 0, 8), (77, 0, 8), (78, 0, 8), (79, 0, 8), (80, 0, 8), (81, 0, 8)])
set_option maxRecDepth 20000 in
abbrev xx_X10_restore_0 : scX := (Tx, invX, lnX10, [(135, 0, 3, cc_X3_forget_0), (360, 0, 5, cc_X5_copyFrom_1)], cc_X10_restore_0)
set_option maxRecDepth 20000 in
theorem hh_X10_restore_0 : scH Tx invX cc_X10_restore_0 := scCheck_ok (X := xx_X10_restore_0) (nodes := []) (fuel := 4000) ⟨lqX10, fa_cons (⟨⟨0, _, pcv_X10_135, rfl⟩, hh_X3_forget_0⟩) (fa_cons (⟨⟨1, _, pcv_X10_360, rfl⟩, hh_X5_copyFrom_1⟩) (fa_nil))⟩ dtX10_restore (by decide +kernel)
abbrev cc_X10_status_0 : scC := (qX10_status, 0, [((-2147483648), 2147483647)], [.inr (.inr (.inl [0])), .inl (some 0, 0)], [], [(1, ((-2147483648), 2147483647), [], [], [])], [])
set_option maxRecDepth 20000 in
abbrev xx_X10_status_0 : scX := (Tx, invX, lnX10, [], cc_X10_status_0)
set_option maxRecDepth 20000 in
theorem hh_X10_status_0 : scH Tx invX cc_X10_status_0 := scCheck_ok (X := xx_X10_status_0) (nodes := []) (fuel := 4000) ⟨lqX10, fa_nil⟩ dtX10_status (by decide +kernel)
abbrev cc_X10_count_0 : scC := (qX10_count, 0, [((-2147483648), 2147483647)], [.inr (.inr (.inl [0])), .inl (some 0, 0)], [], [(1, ((-1), 600), [], [], [])], [])
set_option maxRecDepth 20000 in
abbrev xx_X10_count_0 : scX := (Tx, invX, lnX10, [], cc_X10_count_0)
set_option maxRecDepth 20000 in
theorem hh_X10_count_0 : scH Tx invX cc_X10_count_0 := scCheck_ok (X := xx_X10_count_0) (nodes := []) (fuel := 4000) ⟨lqX10, fa_nil⟩ dtX10_count (by decide +kernel)
abbrev cc_X7_takeNumber_21 : scC := (qX7_takeNumber, 2, [(0, 0), (20, 20), (0, 3)], [.inr (.inr (.inl [1])), .inl (some 0, 0), .inl (some 1, 0)], [((1, 4), (some 2, 0))], [(1, (0, 20), [], [], [((1, 4), (0, 3))]), (1, ((-1), (-1)), [], [], [((1, 4), (1, 3))])], [(1, 3, 3)])
set_option maxRecDepth 20000 in
abbrev xx_X7_takeNumber_21 : scX := (Tx, invX, lnX7, [(35, 0, 7, cc_X7_fail_1), (35, 0, 7, cc_X7_fail_0), (35, 0, 7, cc_X7_fail_2), (39, 0, 7, cc_X7_nextPlace_0)], cc_X7_takeNumber_21)
set_option maxRecDepth 20000 in
theorem hh_X7_takeNumber_21 : scH Tx invX cc_X7_takeNumber_21 := scCheck_ok (X := xx_X7_takeNumber_21) (nodes := [(8, ([(0, 0), (20, 20), (0, 600), ((-2147483648), 1000000), (0, 3), (0, 600), (0, 600)], [some (.inr (.inr (.inl [1]))), some (.inl (some 0, 0)), some (.inl (some 1, 0)), some (.inl (some 2, 0)), some (.inl (some 3, 0))], [], [((1, 4), (some 4, 0)), ((1, 3), (some 5, 0)), ((1, 2), (some 6, 0))]), ([0, 0, 0, 0, 0, (-2)], 1200))]) (fuel := 4000) ⟨lqX7, fa_cons (⟨⟨2, _, pcv_X7_35, rfl⟩, hh_X7_fail_1⟩) (fa_cons (⟨⟨2, _, pcv_X7_35, rfl⟩, hh_X7_fail_0⟩) (fa_cons (⟨⟨2, _, pcv_X7_35, rfl⟩, hh_X7_fail_2⟩) (fa_cons (⟨⟨0, _, pcv_X7_39, rfl⟩, hh_X7_nextPlace_0⟩) (fa_nil))))⟩ dtX7_takeNumber (by decide +kernel)
abbrev cc_X7_takeWord_2 : scC := (qX7_takeWord, 5, [], [.inr (.inr (.inl [1])), .inr (.inr (.inr 4))], [], [(1, ((-1), 4), [], [], [])], [(1, 3, 3)])
set_option maxRecDepth 20000 in
abbrev xx_X7_takeWord_2 : scX := (Tx, invX, lnX7, [(35, 0, 7, cc_X7_fail_0), (39, 0, 7, cc_X7_nextPlace_0), (49, 0, 7, cc_X7_find_2)], cc_X7_takeWord_2)
set_option maxRecDepth 20000 in
theorem hh_X7_takeWord_2 : scH Tx invX cc_X7_takeWord_2 := scCheck_ok (X := xx_X7_takeWord_2) (nodes := [(7, ([(0, 600), (0, 600), (0, 600)], [some (.inr (.inr (.inl [1]))), some (.inr (.inr (.inr 4))), some (.inl (some 0, 0)), some (.inl (some 1, 0)), none], [], [((1, 2), (some 2, 0))]), ([0, (-2)], 1200))]) (fuel := 4000) ⟨lqX7, fa_cons (⟨⟨2, _, pcv_X7_35, rfl⟩, hh_X7_fail_0⟩) (fa_cons (⟨⟨0, _, pcv_X7_39, rfl⟩, hh_X7_nextPlace_0⟩) (fa_cons (⟨⟨3, _, pcv_X7_49, rfl⟩, hh_X7_find_2⟩) (fa_nil)))⟩ dtX7_takeWord (by decide +kernel)
abbrev cc_X0_letDie_1 : scC := (qX0_letDie, 4, [(0, 7)], [.inr (.inr (.inl [32])), .inr (.inr (.inl [47])), .inl (some 0, 0)], [], [(1, (0, 1), [], [], [])], [(26, 0, 24), (47, 1, 1), (47, 3, 4), (48, 0, 8)])
set_option maxRecDepth 20000 in
abbrev xx_X0_letDie_1 : scX := (Tx, invX, lnX0, [(38, 0, 6, cc_X6_isAlive_0), (84, 0, 0, cc_X0_costWhen_0)], cc_X0_letDie_1)
set_option maxRecDepth 20000 in
theorem hh_X0_letDie_1 : scH Tx invX cc_X0_letDie_1 := scCheck_ok (X := xx_X0_letDie_1) (nodes := []) (fuel := 4000) ⟨lqX0, fa_cons (⟨⟨1, _, pcv_X0_38, rfl⟩, hh_X6_isAlive_0⟩) (fa_cons (⟨⟨4, _, pcv_X0_84, rfl⟩, hh_X0_costWhen_0⟩) (fa_nil))⟩ dtX0_letDie (by decide +kernel)
abbrev cc_X0_putPiece_1 : scC := (qX0_putPiece, 3, [(0, 7)], [.inr (.inr (.inl [32])), .inr (.inr (.inl [47])), .inl (some 0, 0)], [], [(1, (0, 1), [], [], [])], [(47, 3, 1), (48, 0, 8)])
set_option maxRecDepth 20000 in
abbrev xx_X0_putPiece_1 : scX := (Tx, invX, lnX0, [(95, 0, 0, cc_X0_canBePut_0), (113, 0, 0, cc_X0_hoursFor_0)], cc_X0_putPiece_1)
set_option maxRecDepth 20000 in
theorem hh_X0_putPiece_1 : scH Tx invX cc_X0_putPiece_1 := scCheck_ok (X := xx_X0_putPiece_1) (nodes := []) (fuel := 4000) ⟨lqX0, fa_cons (⟨⟨2, _, pcv_X0_95, rfl⟩, hh_X0_canBePut_0⟩) (fa_cons (⟨⟨2, _, pcv_X0_113, rfl⟩, hh_X0_hoursFor_0⟩) (fa_nil))⟩ dtX0_putPiece (by decide +kernel)
abbrev cc_X0_passWeek_1 : scC := (qX0_passWeek, 0, [], [.inr (.inr (.inl [32])), .inr (.inr (.inl [47]))], [], [(1, (0, 1), [], [], [])], [(47, 2, 2), (48, 0, 8)])
set_option maxRecDepth 20000 in
abbrev xx_X0_passWeek_1 : scX := (Tx, invX, lnX0, [], cc_X0_passWeek_1)
set_option maxRecDepth 20000 in
theorem hh_X0_passWeek_1 : scH Tx invX cc_X0_passWeek_1 := scCheck_ok (X := xx_X0_passWeek_1) (nodes := [(35, ([(0, 8), ((-1), 12), ((-1), 12), (1, 200), ((-2147483648), 2147483647), (0, 8)], [some (.inr (.inr (.inl [32]))), some (.inr (.inr (.inl [47]))), some (.inl (some 0, 0))], [], [((47, 3), (some 1, 0)), ((3, 11), (some 2, 0)), ((47, 2), (some 3, 0)), ((48, 0), (some 4, 0)), ((3, 9), (some 5, 0))]), ([(-2)], 16))]) (fuel := 4000) ⟨lqX0, fa_nil⟩ dtX0_passWeek (by decide +kernel)
abbrev cc_X9_performStep_0 : scC := (qX9_performStep, 5, [(0, 7), (0, 7)], [.inr (.inr (.inl [32])), .inr (.inr (.inl [47])), .inl (some 0, 0), .inl (some 1, 0)], [], [(1, (0, 1), [], [], [])], [(26, 0, 24), (47, 1, 6), (48, 0, 8)])
set_option maxRecDepth 20000 in
abbrev xx_X9_performStep_0 : scX := (Tx, invX, lnX9, [(94, 0, 0, cc_X0_putPiece_1), (100, 0, 0, cc_X0_letDie_1), (103, 0, 0, cc_X0_passWeek_1)], cc_X9_performStep_0)
set_option maxRecDepth 20000 in
theorem hh_X9_performStep_0 : scH Tx invX cc_X9_performStep_0 := scCheck_ok (X := xx_X9_performStep_0) (nodes := []) (fuel := 4000) ⟨lqX9, fa_cons (⟨⟨2, _, pcv_X9_94, rfl⟩, hh_X0_putPiece_1⟩) (fa_cons (⟨⟨2, _, pcv_X9_100, rfl⟩, hh_X0_letDie_1⟩) (fa_cons (⟨⟨1, _, pcv_X9_103, rfl⟩, hh_X0_passWeek_1⟩) (fa_nil)))⟩ dtX9_performStep (by decide +kernel)
abbrev cc_X6_copyFrom_16 : scC := (qX6_copyFrom, 0, [], [.inr (.inr (.inl [50, 51, 52, 53, 54, 55, 56, 57, 58, 59, 60, 61, 62, 63, 64, 65])), .inr (.inr (.inl [47]))], [], [(0, (0, 0), [], [], [])], [(50, 1, 6), (51, 1, 6), (52, 1, 6), (53, 1, 6), (54, 1, 6), (55, 1, 6), (56, 1, 6), (57, 1, 6), (58, 1, 6), (59, 1, 6), (60, 1, 6), (61, 1, 6), (62, 1, 6), (63, 1, 6), (64, 1, 6), (65, 1, 6), (66, 0, 8), (67, 0, 8), (68, 0, 8), (69, 0, 8), (70, 0, 8), (71, 0, 8), (72, 0, 8), (73, 0, 8), (74, 0, 8), (75, 0, 8), (76, 0, 8), (77, 0, 8), (78, 0, 8), (79, 0, 8), (80, 0, 8), (81, 0, 8)])
set_option maxRecDepth 20000 in
abbrev xx_X6_copyFrom_16 : scX := (Tx, invX, lnX6, [], cc_X6_copyFrom_16)
set_option maxRecDepth 20000 in
theorem hh_X6_copyFrom_16 : scH Tx invX cc_X6_copyFrom_16 := scCheck_ok (X := xx_X6_copyFrom_16) (nodes := []) (fuel := 4000) ⟨lqX6, fa_nil⟩ dtX6_copyFrom (by decide +kernel)
abbrev cc_X5_keep_0 : scC := (qX5_keep, 1, [], [.inr (.inr (.inl [46]))], [], [(0, (0, 0), [], [], [])], [(46, 2, 1), (50, 1, 6), (51, 1, 6), (52, 1, 6), (53, 1, 6), (54, 1, 6), (55, 1, 6), (56, 1, 6), (57, 1, 6), (58, 1, 6), (59, 1, 6), (60, 1, 6), (61, 1, 6), (62, 1, 6), (63, 1, 6), (64, 1, 6), (65, 1, 6), (66, 0, 8), (67, 0, 8), (68, 0, 8), (69, 0, 8), (70, 0, 8), (71, 0, 8), (72, 0, 8), (73, 0, 8), (74, 0, 8), (75, 0, 8), (76, 0, 8), (77, 0, 8), (78, 0, 8), (79, 0, 8), (80, 0, 8), (81, 0, 8)])
set_option maxRecDepth 20000 in
abbrev xx_X5_keep_0 : scX := (Tx, invX, lnX5, [(26, 0, 6, cc_X6_copyFrom_16)], cc_X5_keep_0)
set_option maxRecDepth 20000 in
theorem hh_X5_keep_0 : scH Tx invX cc_X5_keep_0 := scCheck_ok (X := xx_X5_keep_0) (nodes := []) (fuel := 4000) ⟨lqX5, fa_cons (⟨⟨1, _, pcv_X5_26, rfl⟩, hh_X6_copyFrom_16⟩) (fa_nil)⟩ dtX5_keep (by decide +kernel)
