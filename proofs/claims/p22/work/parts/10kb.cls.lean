abbrev cc_X1_readTwo_0 : scC := (qX1_readTwo, 9, [], [.inr (.inr (.inl [23])), .inr (.inr (.inl [1])), .inl (none, 6)], [], [(1, (0, 1), [], [], [])], [(1, 3, 3), (23, 4, 1), (25, 0, 150)])
set_option maxRecDepth 20000 in
abbrev xx_X1_readTwo_0 : scX := (Tx, invX, lnX1, [(31, 0, 1, cc_X1_readSum_0), (64, 0, 7, cc_X7_takeSign_1), (64, 0, 7, cc_X7_takeSign_2)], cc_X1_readTwo_0)
set_option maxRecDepth 20000 in
theorem hh_X1_readTwo_0 : scH Tx invX cc_X1_readTwo_0 := scCheck_ok (X := xx_X1_readTwo_0) (nodes := []) (fuel := 4000) ⟨lqX1, fa_cons (⟨⟨2, _, pcv_X1_31, rfl⟩, hh_X1_readSum_0⟩) (fa_cons (⟨⟨1, _, pcv_X1_64, rfl⟩, hh_X7_takeSign_1⟩) (fa_cons (⟨⟨1, _, pcv_X1_64, rfl⟩, hh_X7_takeSign_2⟩) (fa_nil)))⟩ dtX1_readTwo (by decide +kernel)
abbrev cc_X1_readUnit_1 : scC := (qX1_readUnit, 10, [], [.inr (.inr (.inl [23])), .inr (.inr (.inl [1])), .inl (none, 5)], [], [(1, (0, 1), [], [], [])], [(1, 3, 3), (23, 4, 1), (25, 0, 150)])
set_option maxRecDepth 20000 in
abbrev xx_X1_readUnit_1 : scX := (Tx, invX, lnX1, [(31, 0, 1, cc_X1_readSum_0), (35, 0, 7, cc_X7_peek_0), (57, 0, 1, cc_X1_emit_0), (64, 0, 7, cc_X7_takeSign_2), (68, 0, 7, cc_X7_takeNumber_18), (72, 0, 7, cc_X7_failed_0), (72, 0, 7, cc_X7_failed_1), (78, 0, 7, cc_X7_takeWord_1), (82, 0, 1, cc_X1_readTwo_0)], cc_X1_readUnit_1)
set_option maxRecDepth 20000 in
theorem hh_X1_readUnit_1 : scH Tx invX cc_X1_readUnit_1 := scCheck_ok (X := xx_X1_readUnit_1) (nodes := []) (fuel := 4000) ⟨lqX1, fa_cons (⟨⟨2, _, pcv_X1_31, rfl⟩, hh_X1_readSum_0⟩) (fa_cons (⟨⟨0, _, pcv_X1_35, rfl⟩, hh_X7_peek_0⟩) (fa_cons (⟨⟨1, _, pcv_X1_57, rfl⟩, hh_X1_emit_0⟩) (fa_cons (⟨⟨1, _, pcv_X1_64, rfl⟩, hh_X7_takeSign_2⟩) (fa_cons (⟨⟨2, _, pcv_X1_68, rfl⟩, hh_X7_takeNumber_18⟩) (fa_cons (⟨⟨0, _, pcv_X1_72, rfl⟩, hh_X7_failed_0⟩) (fa_cons (⟨⟨0, _, pcv_X1_72, rfl⟩, hh_X7_failed_1⟩) (fa_cons (⟨⟨1, _, pcv_X1_78, rfl⟩, hh_X7_takeWord_1⟩) (fa_cons (⟨⟨2, _, pcv_X1_82, rfl⟩, hh_X1_readTwo_0⟩) (fa_nil)))))))))⟩ dtX1_readUnit (by decide +kernel)
abbrev cc_X1_readProduct_1 : scC := (qX1_readProduct, 11, [], [.inr (.inr (.inl [23])), .inr (.inr (.inl [1])), .inl (none, 5)], [], [(1, (0, 1), [], [], [])], [(1, 3, 3), (23, 4, 1), (25, 0, 150)])
set_option maxRecDepth 20000 in
abbrev xx_X1_readProduct_1 : scX := (Tx, invX, lnX1, [(35, 0, 7, cc_X7_peek_0), (57, 0, 1, cc_X1_emit_0), (61, 0, 1, cc_X1_readUnit_1)], cc_X1_readProduct_1)
set_option maxRecDepth 20000 in
theorem hh_X1_readProduct_1 : scH Tx invX cc_X1_readProduct_1 := scCheck_ok (X := xx_X1_readProduct_1) (nodes := [(10, ([(5, 5), (0, 1), (0, 150)], [some (.inr (.inr (.inl [23]))), some (.inr (.inr (.inl [1]))), some (.inl (some 0, 0)), some (.inl (some 1, 0)), some (.inl (some 2, 0)), none], [], []), ([0, 0, (-2)], 300))]) (fuel := 4000) ⟨lqX1, fa_cons (⟨⟨0, _, pcv_X1_35, rfl⟩, hh_X7_peek_0⟩) (fa_cons (⟨⟨1, _, pcv_X1_57, rfl⟩, hh_X1_emit_0⟩) (fa_cons (⟨⟨2, _, pcv_X1_61, rfl⟩, hh_X1_readUnit_1⟩) (fa_nil)))⟩ dtX1_readProduct (by decide +kernel)
abbrev cc_X1_readSum_1 : scC := (qX1_readSum, 12, [], [.inr (.inr (.inl [23])), .inr (.inr (.inl [1])), .inl (none, 5)], [], [(1, (0, 1), [], [], [])], [(1, 3, 3), (23, 4, 1), (25, 0, 150)])
set_option maxRecDepth 20000 in
abbrev xx_X1_readSum_1 : scX := (Tx, invX, lnX1, [(35, 0, 7, cc_X7_peek_0), (54, 0, 1, cc_X1_readProduct_1), (57, 0, 1, cc_X1_emit_0)], cc_X1_readSum_1)
set_option maxRecDepth 20000 in
theorem hh_X1_readSum_1 : scH Tx invX cc_X1_readSum_1 := scCheck_ok (X := xx_X1_readSum_1) (nodes := [(10, ([(5, 5), (0, 1), (0, 150)], [some (.inr (.inr (.inl [23]))), some (.inr (.inr (.inl [1]))), some (.inl (some 0, 0)), some (.inl (some 1, 0)), some (.inl (some 2, 0)), none], [], []), ([0, 0, (-2)], 300))]) (fuel := 4000) ⟨lqX1, fa_cons (⟨⟨0, _, pcv_X1_35, rfl⟩, hh_X7_peek_0⟩) (fa_cons (⟨⟨2, _, pcv_X1_54, rfl⟩, hh_X1_readProduct_1⟩) (fa_cons (⟨⟨1, _, pcv_X1_57, rfl⟩, hh_X1_emit_0⟩) (fa_nil)))⟩ dtX1_readSum (by decide +kernel)
abbrev cc_X1_readTwo_1 : scC := (qX1_readTwo, 13, [], [.inr (.inr (.inl [23])), .inr (.inr (.inl [1])), .inl (none, 5)], [], [(1, (0, 1), [], [], [])], [(1, 3, 3), (23, 4, 1), (25, 0, 150)])
set_option maxRecDepth 20000 in
abbrev xx_X1_readTwo_1 : scX := (Tx, invX, lnX1, [(31, 0, 1, cc_X1_readSum_1), (64, 0, 7, cc_X7_takeSign_1), (64, 0, 7, cc_X7_takeSign_2)], cc_X1_readTwo_1)
set_option maxRecDepth 20000 in
theorem hh_X1_readTwo_1 : scH Tx invX cc_X1_readTwo_1 := scCheck_ok (X := xx_X1_readTwo_1) (nodes := []) (fuel := 4000) ⟨lqX1, fa_cons (⟨⟨2, _, pcv_X1_31, rfl⟩, hh_X1_readSum_1⟩) (fa_cons (⟨⟨1, _, pcv_X1_64, rfl⟩, hh_X7_takeSign_1⟩) (fa_cons (⟨⟨1, _, pcv_X1_64, rfl⟩, hh_X7_takeSign_2⟩) (fa_nil)))⟩ dtX1_readTwo (by decide +kernel)
abbrev cc_X1_readUnit_2 : scC := (qX1_readUnit, 14, [], [.inr (.inr (.inl [23])), .inr (.inr (.inl [1])), .inl (none, 4)], [], [(1, (0, 1), [], [], [])], [(1, 3, 3), (23, 4, 1), (25, 0, 150)])
set_option maxRecDepth 20000 in
abbrev xx_X1_readUnit_2 : scX := (Tx, invX, lnX1, [(31, 0, 1, cc_X1_readSum_1), (35, 0, 7, cc_X7_peek_0), (57, 0, 1, cc_X1_emit_0), (64, 0, 7, cc_X7_takeSign_2), (68, 0, 7, cc_X7_takeNumber_18), (72, 0, 7, cc_X7_failed_0), (72, 0, 7, cc_X7_failed_1), (78, 0, 7, cc_X7_takeWord_1), (82, 0, 1, cc_X1_readTwo_1)], cc_X1_readUnit_2)
set_option maxRecDepth 20000 in
theorem hh_X1_readUnit_2 : scH Tx invX cc_X1_readUnit_2 := scCheck_ok (X := xx_X1_readUnit_2) (nodes := []) (fuel := 4000) ⟨lqX1, fa_cons (⟨⟨2, _, pcv_X1_31, rfl⟩, hh_X1_readSum_1⟩) (fa_cons (⟨⟨0, _, pcv_X1_35, rfl⟩, hh_X7_peek_0⟩) (fa_cons (⟨⟨1, _, pcv_X1_57, rfl⟩, hh_X1_emit_0⟩) (fa_cons (⟨⟨1, _, pcv_X1_64, rfl⟩, hh_X7_takeSign_2⟩) (fa_cons (⟨⟨2, _, pcv_X1_68, rfl⟩, hh_X7_takeNumber_18⟩) (fa_cons (⟨⟨0, _, pcv_X1_72, rfl⟩, hh_X7_failed_0⟩) (fa_cons (⟨⟨0, _, pcv_X1_72, rfl⟩, hh_X7_failed_1⟩) (fa_cons (⟨⟨1, _, pcv_X1_78, rfl⟩, hh_X7_takeWord_1⟩) (fa_cons (⟨⟨2, _, pcv_X1_82, rfl⟩, hh_X1_readTwo_1⟩) (fa_nil)))))))))⟩ dtX1_readUnit (by decide +kernel)
abbrev cc_X1_readProduct_2 : scC := (qX1_readProduct, 15, [], [.inr (.inr (.inl [23])), .inr (.inr (.inl [1])), .inl (none, 4)], [], [(1, (0, 1), [], [], [])], [(1, 3, 3), (23, 4, 1), (25, 0, 150)])
set_option maxRecDepth 20000 in
abbrev xx_X1_readProduct_2 : scX := (Tx, invX, lnX1, [(35, 0, 7, cc_X7_peek_0), (57, 0, 1, cc_X1_emit_0), (61, 0, 1, cc_X1_readUnit_2)], cc_X1_readProduct_2)
set_option maxRecDepth 20000 in
theorem hh_X1_readProduct_2 : scH Tx invX cc_X1_readProduct_2 := scCheck_ok (X := xx_X1_readProduct_2) (nodes := [(10, ([(4, 4), (0, 1), (0, 150)], [some (.inr (.inr (.inl [23]))), some (.inr (.inr (.inl [1]))), some (.inl (some 0, 0)), some (.inl (some 1, 0)), some (.inl (some 2, 0)), none], [], []), ([0, 0, (-2)], 300))]) (fuel := 4000) ⟨lqX1, fa_cons (⟨⟨0, _, pcv_X1_35, rfl⟩, hh_X7_peek_0⟩) (fa_cons (⟨⟨1, _, pcv_X1_57, rfl⟩, hh_X1_emit_0⟩) (fa_cons (⟨⟨2, _, pcv_X1_61, rfl⟩, hh_X1_readUnit_2⟩) (fa_nil)))⟩ dtX1_readProduct (by decide +kernel)
abbrev cc_X1_readSum_2 : scC := (qX1_readSum, 16, [], [.inr (.inr (.inl [23])), .inr (.inr (.inl [1])), .inl (none, 4)], [], [(1, (0, 1), [], [], [])], [(1, 3, 3), (23, 4, 1), (25, 0, 150)])
set_option maxRecDepth 20000 in
abbrev xx_X1_readSum_2 : scX := (Tx, invX, lnX1, [(35, 0, 7, cc_X7_peek_0), (54, 0, 1, cc_X1_readProduct_2), (57, 0, 1, cc_X1_emit_0)], cc_X1_readSum_2)
set_option maxRecDepth 20000 in
theorem hh_X1_readSum_2 : scH Tx invX cc_X1_readSum_2 := scCheck_ok (X := xx_X1_readSum_2) (nodes := [(10, ([(4, 4), (0, 1), (0, 150)], [some (.inr (.inr (.inl [23]))), some (.inr (.inr (.inl [1]))), some (.inl (some 0, 0)), some (.inl (some 1, 0)), some (.inl (some 2, 0)), none], [], []), ([0, 0, (-2)], 300))]) (fuel := 4000) ⟨lqX1, fa_cons (⟨⟨0, _, pcv_X1_35, rfl⟩, hh_X7_peek_0⟩) (fa_cons (⟨⟨2, _, pcv_X1_54, rfl⟩, hh_X1_readProduct_2⟩) (fa_cons (⟨⟨1, _, pcv_X1_57, rfl⟩, hh_X1_emit_0⟩) (fa_nil)))⟩ dtX1_readSum (by decide +kernel)
abbrev cc_X1_readTwo_2 : scC := (qX1_readTwo, 17, [], [.inr (.inr (.inl [23])), .inr (.inr (.inl [1])), .inl (none, 4)], [], [(1, (0, 1), [], [], [])], [(1, 3, 3), (23, 4, 1), (25, 0, 150)])
set_option maxRecDepth 20000 in
abbrev xx_X1_readTwo_2 : scX := (Tx, invX, lnX1, [(31, 0, 1, cc_X1_readSum_2), (64, 0, 7, cc_X7_takeSign_1), (64, 0, 7, cc_X7_takeSign_2)], cc_X1_readTwo_2)
set_option maxRecDepth 20000 in
theorem hh_X1_readTwo_2 : scH Tx invX cc_X1_readTwo_2 := scCheck_ok (X := xx_X1_readTwo_2) (nodes := []) (fuel := 4000) ⟨lqX1, fa_cons (⟨⟨2, _, pcv_X1_31, rfl⟩, hh_X1_readSum_2⟩) (fa_cons (⟨⟨1, _, pcv_X1_64, rfl⟩, hh_X7_takeSign_1⟩) (fa_cons (⟨⟨1, _, pcv_X1_64, rfl⟩, hh_X7_takeSign_2⟩) (fa_nil)))⟩ dtX1_readTwo (by decide +kernel)
abbrev cc_X1_readUnit_3 : scC := (qX1_readUnit, 18, [], [.inr (.inr (.inl [23])), .inr (.inr (.inl [1])), .inl (none, 3)], [], [(1, (0, 1), [], [], [])], [(1, 3, 3), (23, 4, 1), (25, 0, 150)])
set_option maxRecDepth 20000 in
abbrev xx_X1_readUnit_3 : scX := (Tx, invX, lnX1, [(31, 0, 1, cc_X1_readSum_2), (35, 0, 7, cc_X7_peek_0), (57, 0, 1, cc_X1_emit_0), (64, 0, 7, cc_X7_takeSign_2), (68, 0, 7, cc_X7_takeNumber_18), (72, 0, 7, cc_X7_failed_0), (72, 0, 7, cc_X7_failed_1), (78, 0, 7, cc_X7_takeWord_1), (82, 0, 1, cc_X1_readTwo_2)], cc_X1_readUnit_3)
set_option maxRecDepth 20000 in
theorem hh_X1_readUnit_3 : scH Tx invX cc_X1_readUnit_3 := scCheck_ok (X := xx_X1_readUnit_3) (nodes := []) (fuel := 4000) ⟨lqX1, fa_cons (⟨⟨2, _, pcv_X1_31, rfl⟩, hh_X1_readSum_2⟩) (fa_cons (⟨⟨0, _, pcv_X1_35, rfl⟩, hh_X7_peek_0⟩) (fa_cons (⟨⟨1, _, pcv_X1_57, rfl⟩, hh_X1_emit_0⟩) (fa_cons (⟨⟨1, _, pcv_X1_64, rfl⟩, hh_X7_takeSign_2⟩) (fa_cons (⟨⟨2, _, pcv_X1_68, rfl⟩, hh_X7_takeNumber_18⟩) (fa_cons (⟨⟨0, _, pcv_X1_72, rfl⟩, hh_X7_failed_0⟩) (fa_cons (⟨⟨0, _, pcv_X1_72, rfl⟩, hh_X7_failed_1⟩) (fa_cons (⟨⟨1, _, pcv_X1_78, rfl⟩, hh_X7_takeWord_1⟩) (fa_cons (⟨⟨2, _, pcv_X1_82, rfl⟩, hh_X1_readTwo_2⟩) (fa_nil)))))))))⟩ dtX1_readUnit (by decide +kernel)
abbrev cc_X1_readProduct_3 : scC := (qX1_readProduct, 19, [], [.inr (.inr (.inl [23])), .inr (.inr (.inl [1])), .inl (none, 3)], [], [(1, (0, 1), [], [], [])], [(1, 3, 3), (23, 4, 1), (25, 0, 150)])
set_option maxRecDepth 20000 in
abbrev xx_X1_readProduct_3 : scX := (Tx, invX, lnX1, [(35, 0, 7, cc_X7_peek_0), (57, 0, 1, cc_X1_emit_0), (61, 0, 1, cc_X1_readUnit_3)], cc_X1_readProduct_3)
set_option maxRecDepth 20000 in
theorem hh_X1_readProduct_3 : scH Tx invX cc_X1_readProduct_3 := scCheck_ok (X := xx_X1_readProduct_3) (nodes := [(10, ([(3, 3), (0, 1), (0, 150)], [some (.inr (.inr (.inl [23]))), some (.inr (.inr (.inl [1]))), some (.inl (some 0, 0)), some (.inl (some 1, 0)), some (.inl (some 2, 0)), none], [], []), ([0, 0, (-2)], 300))]) (fuel := 4000) ⟨lqX1, fa_cons (⟨⟨0, _, pcv_X1_35, rfl⟩, hh_X7_peek_0⟩) (fa_cons (⟨⟨1, _, pcv_X1_57, rfl⟩, hh_X1_emit_0⟩) (fa_cons (⟨⟨2, _, pcv_X1_61, rfl⟩, hh_X1_readUnit_3⟩) (fa_nil)))⟩ dtX1_readProduct (by decide +kernel)
abbrev cc_X1_readSum_3 : scC := (qX1_readSum, 20, [], [.inr (.inr (.inl [23])), .inr (.inr (.inl [1])), .inl (none, 3)], [], [(1, (0, 1), [], [], [])], [(1, 3, 3), (23, 4, 1), (25, 0, 150)])
set_option maxRecDepth 20000 in
abbrev xx_X1_readSum_3 : scX := (Tx, invX, lnX1, [(35, 0, 7, cc_X7_peek_0), (54, 0, 1, cc_X1_readProduct_3), (57, 0, 1, cc_X1_emit_0)], cc_X1_readSum_3)
set_option maxRecDepth 20000 in
theorem hh_X1_readSum_3 : scH Tx invX cc_X1_readSum_3 := scCheck_ok (X := xx_X1_readSum_3) (nodes := [(10, ([(3, 3), (0, 1), (0, 150)], [some (.inr (.inr (.inl [23]))), some (.inr (.inr (.inl [1]))), some (.inl (some 0, 0)), some (.inl (some 1, 0)), some (.inl (some 2, 0)), none], [], []), ([0, 0, (-2)], 300))]) (fuel := 4000) ⟨lqX1, fa_cons (⟨⟨0, _, pcv_X1_35, rfl⟩, hh_X7_peek_0⟩) (fa_cons (⟨⟨2, _, pcv_X1_54, rfl⟩, hh_X1_readProduct_3⟩) (fa_cons (⟨⟨1, _, pcv_X1_57, rfl⟩, hh_X1_emit_0⟩) (fa_nil)))⟩ dtX1_readSum (by decide +kernel)
abbrev cc_X1_readTwo_3 : scC := (qX1_readTwo, 21, [], [.inr (.inr (.inl [23])), .inr (.inr (.inl [1])), .inl (none, 3)], [], [(1, (0, 1), [], [], [])], [(1, 3, 3), (23, 4, 1), (25, 0, 150)])
set_option maxRecDepth 20000 in
abbrev xx_X1_readTwo_3 : scX := (Tx, invX, lnX1, [(31, 0, 1, cc_X1_readSum_3), (64, 0, 7, cc_X7_takeSign_1), (64, 0, 7, cc_X7_takeSign_2)], cc_X1_readTwo_3)
set_option maxRecDepth 20000 in
theorem hh_X1_readTwo_3 : scH Tx invX cc_X1_readTwo_3 := scCheck_ok (X := xx_X1_readTwo_3) (nodes := []) (fuel := 4000) ⟨lqX1, fa_cons (⟨⟨2, _, pcv_X1_31, rfl⟩, hh_X1_readSum_3⟩) (fa_cons (⟨⟨1, _, pcv_X1_64, rfl⟩, hh_X7_takeSign_1⟩) (fa_cons (⟨⟨1, _, pcv_X1_64, rfl⟩, hh_X7_takeSign_2⟩) (fa_nil)))⟩ dtX1_readTwo (by decide +kernel)
abbrev cc_X1_readUnit_4 : scC := (qX1_readUnit, 22, [], [.inr (.inr (.inl [23])), .inr (.inr (.inl [1])), .inl (none, 2)], [], [(1, (0, 1), [], [], [])], [(1, 3, 3), (23, 4, 1), (25, 0, 150)])
set_option maxRecDepth 20000 in
abbrev xx_X1_readUnit_4 : scX := (Tx, invX, lnX1, [(31, 0, 1, cc_X1_readSum_3), (35, 0, 7, cc_X7_peek_0), (57, 0, 1, cc_X1_emit_0), (64, 0, 7, cc_X7_takeSign_2), (68, 0, 7, cc_X7_takeNumber_18), (72, 0, 7, cc_X7_failed_0), (72, 0, 7, cc_X7_failed_1), (78, 0, 7, cc_X7_takeWord_1), (82, 0, 1, cc_X1_readTwo_3)], cc_X1_readUnit_4)
set_option maxRecDepth 20000 in
theorem hh_X1_readUnit_4 : scH Tx invX cc_X1_readUnit_4 := scCheck_ok (X := xx_X1_readUnit_4) (nodes := []) (fuel := 4000) ⟨lqX1, fa_cons (⟨⟨2, _, pcv_X1_31, rfl⟩, hh_X1_readSum_3⟩) (fa_cons (⟨⟨0, _, pcv_X1_35, rfl⟩, hh_X7_peek_0⟩) (fa_cons (⟨⟨1, _, pcv_X1_57, rfl⟩, hh_X1_emit_0⟩) (fa_cons (⟨⟨1, _, pcv_X1_64, rfl⟩, hh_X7_takeSign_2⟩) (fa_cons (⟨⟨2, _, pcv_X1_68, rfl⟩, hh_X7_takeNumber_18⟩) (fa_cons (⟨⟨0, _, pcv_X1_72, rfl⟩, hh_X7_failed_0⟩) (fa_cons (⟨⟨0, _, pcv_X1_72, rfl⟩, hh_X7_failed_1⟩) (fa_cons (⟨⟨1, _, pcv_X1_78, rfl⟩, hh_X7_takeWord_1⟩) (fa_cons (⟨⟨2, _, pcv_X1_82, rfl⟩, hh_X1_readTwo_3⟩) (fa_nil)))))))))⟩ dtX1_readUnit (by decide +kernel)
abbrev cc_X1_readProduct_4 : scC := (qX1_readProduct, 23, [], [.inr (.inr (.inl [23])), .inr (.inr (.inl [1])), .inl (none, 2)], [], [(1, (0, 1), [], [], [])], [(1, 3, 3), (23, 4, 1), (25, 0, 150)])
set_option maxRecDepth 20000 in
abbrev xx_X1_readProduct_4 : scX := (Tx, invX, lnX1, [(35, 0, 7, cc_X7_peek_0), (57, 0, 1, cc_X1_emit_0), (61, 0, 1, cc_X1_readUnit_4)], cc_X1_readProduct_4)
set_option maxRecDepth 20000 in
theorem hh_X1_readProduct_4 : scH Tx invX cc_X1_readProduct_4 := scCheck_ok (X := xx_X1_readProduct_4) (nodes := [(10, ([(2, 2), (0, 1), (0, 150)], [some (.inr (.inr (.inl [23]))), some (.inr (.inr (.inl [1]))), some (.inl (some 0, 0)), some (.inl (some 1, 0)), some (.inl (some 2, 0)), none], [], []), ([0, 0, (-2)], 300))]) (fuel := 4000) ⟨lqX1, fa_cons (⟨⟨0, _, pcv_X1_35, rfl⟩, hh_X7_peek_0⟩) (fa_cons (⟨⟨1, _, pcv_X1_57, rfl⟩, hh_X1_emit_0⟩) (fa_cons (⟨⟨2, _, pcv_X1_61, rfl⟩, hh_X1_readUnit_4⟩) (fa_nil)))⟩ dtX1_readProduct (by decide +kernel)
abbrev cc_X1_readSum_4 : scC := (qX1_readSum, 24, [], [.inr (.inr (.inl [23])), .inr (.inr (.inl [1])), .inl (none, 2)], [], [(1, (0, 1), [], [], [])], [(1, 3, 3), (23, 4, 1), (25, 0, 150)])
set_option maxRecDepth 20000 in
abbrev xx_X1_readSum_4 : scX := (Tx, invX, lnX1, [(35, 0, 7, cc_X7_peek_0), (54, 0, 1, cc_X1_readProduct_4), (57, 0, 1, cc_X1_emit_0)], cc_X1_readSum_4)
set_option maxRecDepth 20000 in
theorem hh_X1_readSum_4 : scH Tx invX cc_X1_readSum_4 := scCheck_ok (X := xx_X1_readSum_4) (nodes := [(10, ([(2, 2), (0, 1), (0, 150)], [some (.inr (.inr (.inl [23]))), some (.inr (.inr (.inl [1]))), some (.inl (some 0, 0)), some (.inl (some 1, 0)), some (.inl (some 2, 0)), none], [], []), ([0, 0, (-2)], 300))]) (fuel := 4000) ⟨lqX1, fa_cons (⟨⟨0, _, pcv_X1_35, rfl⟩, hh_X7_peek_0⟩) (fa_cons (⟨⟨2, _, pcv_X1_54, rfl⟩, hh_X1_readProduct_4⟩) (fa_cons (⟨⟨1, _, pcv_X1_57, rfl⟩, hh_X1_emit_0⟩) (fa_nil)))⟩ dtX1_readSum (by decide +kernel)
abbrev cc_X1_readTwo_4 : scC := (qX1_readTwo, 25, [], [.inr (.inr (.inl [23])), .inr (.inr (.inl [1])), .inl (none, 2)], [], [(1, (0, 1), [], [], [])], [(1, 3, 3), (23, 4, 1), (25, 0, 150)])
set_option maxRecDepth 20000 in
abbrev xx_X1_readTwo_4 : scX := (Tx, invX, lnX1, [(31, 0, 1, cc_X1_readSum_4), (64, 0, 7, cc_X7_takeSign_1), (64, 0, 7, cc_X7_takeSign_2)], cc_X1_readTwo_4)
set_option maxRecDepth 20000 in
theorem hh_X1_readTwo_4 : scH Tx invX cc_X1_readTwo_4 := scCheck_ok (X := xx_X1_readTwo_4) (nodes := []) (fuel := 4000) ⟨lqX1, fa_cons (⟨⟨2, _, pcv_X1_31, rfl⟩, hh_X1_readSum_4⟩) (fa_cons (⟨⟨1, _, pcv_X1_64, rfl⟩, hh_X7_takeSign_1⟩) (fa_cons (⟨⟨1, _, pcv_X1_64, rfl⟩, hh_X7_takeSign_2⟩) (fa_nil)))⟩ dtX1_readTwo (by decide +kernel)
abbrev cc_X1_readUnit_5 : scC := (qX1_readUnit, 26, [], [.inr (.inr (.inl [23])), .inr (.inr (.inl [1])), .inl (none, 1)], [], [(1, (0, 1), [], [], [])], [(1, 3, 3), (23, 4, 1), (25, 0, 150)])
set_option maxRecDepth 20000 in
abbrev xx_X1_readUnit_5 : scX := (Tx, invX, lnX1, [(31, 0, 1, cc_X1_readSum_4), (35, 0, 7, cc_X7_peek_0), (57, 0, 1, cc_X1_emit_0), (64, 0, 7, cc_X7_takeSign_2), (68, 0, 7, cc_X7_takeNumber_18), (72, 0, 7, cc_X7_failed_0), (72, 0, 7, cc_X7_failed_1), (78, 0, 7, cc_X7_takeWord_1), (82, 0, 1, cc_X1_readTwo_4)], cc_X1_readUnit_5)
set_option maxRecDepth 20000 in
theorem hh_X1_readUnit_5 : scH Tx invX cc_X1_readUnit_5 := scCheck_ok (X := xx_X1_readUnit_5) (nodes := []) (fuel := 4000) ⟨lqX1, fa_cons (⟨⟨2, _, pcv_X1_31, rfl⟩, hh_X1_readSum_4⟩) (fa_cons (⟨⟨0, _, pcv_X1_35, rfl⟩, hh_X7_peek_0⟩) (fa_cons (⟨⟨1, _, pcv_X1_57, rfl⟩, hh_X1_emit_0⟩) (fa_cons (⟨⟨1, _, pcv_X1_64, rfl⟩, hh_X7_takeSign_2⟩) (fa_cons (⟨⟨2, _, pcv_X1_68, rfl⟩, hh_X7_takeNumber_18⟩) (fa_cons (⟨⟨0, _, pcv_X1_72, rfl⟩, hh_X7_failed_0⟩) (fa_cons (⟨⟨0, _, pcv_X1_72, rfl⟩, hh_X7_failed_1⟩) (fa_cons (⟨⟨1, _, pcv_X1_78, rfl⟩, hh_X7_takeWord_1⟩) (fa_cons (⟨⟨2, _, pcv_X1_82, rfl⟩, hh_X1_readTwo_4⟩) (fa_nil)))))))))⟩ dtX1_readUnit (by decide +kernel)
abbrev cc_X1_readProduct_5 : scC := (qX1_readProduct, 27, [], [.inr (.inr (.inl [23])), .inr (.inr (.inl [1])), .inl (none, 1)], [], [(1, (0, 1), [], [], [])], [(1, 3, 3), (23, 4, 1), (25, 0, 150)])
set_option maxRecDepth 20000 in
abbrev xx_X1_readProduct_5 : scX := (Tx, invX, lnX1, [(35, 0, 7, cc_X7_peek_0), (57, 0, 1, cc_X1_emit_0), (61, 0, 1, cc_X1_readUnit_5)], cc_X1_readProduct_5)
set_option maxRecDepth 20000 in
theorem hh_X1_readProduct_5 : scH Tx invX cc_X1_readProduct_5 := scCheck_ok (X := xx_X1_readProduct_5) (nodes := [(10, ([(1, 1), (0, 1), (0, 150)], [some (.inr (.inr (.inl [23]))), some (.inr (.inr (.inl [1]))), some (.inl (some 0, 0)), some (.inl (some 1, 0)), some (.inl (some 2, 0)), none], [], []), ([0, 0, (-2)], 300))]) (fuel := 4000) ⟨lqX1, fa_cons (⟨⟨0, _, pcv_X1_35, rfl⟩, hh_X7_peek_0⟩) (fa_cons (⟨⟨1, _, pcv_X1_57, rfl⟩, hh_X1_emit_0⟩) (fa_cons (⟨⟨2, _, pcv_X1_61, rfl⟩, hh_X1_readUnit_5⟩) (fa_nil)))⟩ dtX1_readProduct (by decide +kernel)
abbrev cc_X1_readSum_5 : scC := (qX1_readSum, 28, [], [.inr (.inr (.inl [23])), .inr (.inr (.inl [1])), .inl (none, 1)], [], [(1, (0, 1), [], [], [])], [(1, 3, 3), (23, 4, 1), (25, 0, 150)])
set_option maxRecDepth 20000 in
abbrev xx_X1_readSum_5 : scX := (Tx, invX, lnX1, [(35, 0, 7, cc_X7_peek_0), (54, 0, 1, cc_X1_readProduct_5), (57, 0, 1, cc_X1_emit_0)], cc_X1_readSum_5)
set_option maxRecDepth 20000 in
theorem hh_X1_readSum_5 : scH Tx invX cc_X1_readSum_5 := scCheck_ok (X := xx_X1_readSum_5) (nodes := [(10, ([(1, 1), (0, 1), (0, 150)], [some (.inr (.inr (.inl [23]))), some (.inr (.inr (.inl [1]))), some (.inl (some 0, 0)), some (.inl (some 1, 0)), some (.inl (some 2, 0)), none], [], []), ([0, 0, (-2)], 300))]) (fuel := 4000) ⟨lqX1, fa_cons (⟨⟨0, _, pcv_X1_35, rfl⟩, hh_X7_peek_0⟩) (fa_cons (⟨⟨2, _, pcv_X1_54, rfl⟩, hh_X1_readProduct_5⟩) (fa_cons (⟨⟨1, _, pcv_X1_57, rfl⟩, hh_X1_emit_0⟩) (fa_nil)))⟩ dtX1_readSum (by decide +kernel)
abbrev cc_X1_readTwo_5 : scC := (qX1_readTwo, 29, [], [.inr (.inr (.inl [23])), .inr (.inr (.inl [1])), .inl (none, 1)], [], [(1, (0, 1), [], [], [])], [(1, 3, 3), (23, 4, 1), (25, 0, 150)])
set_option maxRecDepth 20000 in
abbrev xx_X1_readTwo_5 : scX := (Tx, invX, lnX1, [(31, 0, 1, cc_X1_readSum_5), (64, 0, 7, cc_X7_takeSign_1), (64, 0, 7, cc_X7_takeSign_2)], cc_X1_readTwo_5)
set_option maxRecDepth 20000 in
theorem hh_X1_readTwo_5 : scH Tx invX cc_X1_readTwo_5 := scCheck_ok (X := xx_X1_readTwo_5) (nodes := []) (fuel := 4000) ⟨lqX1, fa_cons (⟨⟨2, _, pcv_X1_31, rfl⟩, hh_X1_readSum_5⟩) (fa_cons (⟨⟨1, _, pcv_X1_64, rfl⟩, hh_X7_takeSign_1⟩) (fa_cons (⟨⟨1, _, pcv_X1_64, rfl⟩, hh_X7_takeSign_2⟩) (fa_nil)))⟩ dtX1_readTwo (by decide +kernel)
abbrev cc_X1_readUnit_6 : scC := (qX1_readUnit, 30, [], [.inr (.inr (.inl [23])), .inr (.inr (.inl [1])), .inl (none, 0)], [], [(1, (0, 1), [], [], [])], [(1, 3, 3), (23, 4, 1), (25, 0, 150)])
set_option maxRecDepth 20000 in
abbrev xx_X1_readUnit_6 : scX := (Tx, invX, lnX1, [(31, 0, 1, cc_X1_readSum_5), (35, 0, 7, cc_X7_peek_0), (57, 0, 1, cc_X1_emit_0), (64, 0, 7, cc_X7_takeSign_2), (68, 0, 7, cc_X7_takeNumber_18), (72, 0, 7, cc_X7_failed_0), (72, 0, 7, cc_X7_failed_1), (78, 0, 7, cc_X7_takeWord_1), (82, 0, 1, cc_X1_readTwo_5)], cc_X1_readUnit_6)
set_option maxRecDepth 20000 in
theorem hh_X1_readUnit_6 : scH Tx invX cc_X1_readUnit_6 := scCheck_ok (X := xx_X1_readUnit_6) (nodes := []) (fuel := 4000) ⟨lqX1, fa_cons (⟨⟨2, _, pcv_X1_31, rfl⟩, hh_X1_readSum_5⟩) (fa_cons (⟨⟨0, _, pcv_X1_35, rfl⟩, hh_X7_peek_0⟩) (fa_cons (⟨⟨1, _, pcv_X1_57, rfl⟩, hh_X1_emit_0⟩) (fa_cons (⟨⟨1, _, pcv_X1_64, rfl⟩, hh_X7_takeSign_2⟩) (fa_cons (⟨⟨2, _, pcv_X1_68, rfl⟩, hh_X7_takeNumber_18⟩) (fa_cons (⟨⟨0, _, pcv_X1_72, rfl⟩, hh_X7_failed_0⟩) (fa_cons (⟨⟨0, _, pcv_X1_72, rfl⟩, hh_X7_failed_1⟩) (fa_cons (⟨⟨1, _, pcv_X1_78, rfl⟩, hh_X7_takeWord_1⟩) (fa_cons (⟨⟨2, _, pcv_X1_82, rfl⟩, hh_X1_readTwo_5⟩) (fa_nil)))))))))⟩ dtX1_readUnit (by decide +kernel)
abbrev cc_X1_readProduct_6 : scC := (qX1_readProduct, 31, [], [.inr (.inr (.inl [23])), .inr (.inr (.inl [1])), .inl (none, 0)], [], [(1, (0, 1), [], [], [])], [(1, 3, 3), (23, 4, 1), (25, 0, 150)])
set_option maxRecDepth 20000 in
abbrev xx_X1_readProduct_6 : scX := (Tx, invX, lnX1, [(35, 0, 7, cc_X7_peek_0), (57, 0, 1, cc_X1_emit_0), (61, 0, 1, cc_X1_readUnit_6)], cc_X1_readProduct_6)
set_option maxRecDepth 20000 in
theorem hh_X1_readProduct_6 : scH Tx invX cc_X1_readProduct_6 := scCheck_ok (X := xx_X1_readProduct_6) (nodes := [(10, ([(0, 0), (0, 1), (0, 150)], [some (.inr (.inr (.inl [23]))), some (.inr (.inr (.inl [1]))), some (.inl (some 0, 0)), some (.inl (some 1, 0)), some (.inl (some 2, 0)), none], [], []), ([0, 0, (-2)], 300))]) (fuel := 4000) ⟨lqX1, fa_cons (⟨⟨0, _, pcv_X1_35, rfl⟩, hh_X7_peek_0⟩) (fa_cons (⟨⟨1, _, pcv_X1_57, rfl⟩, hh_X1_emit_0⟩) (fa_cons (⟨⟨2, _, pcv_X1_61, rfl⟩, hh_X1_readUnit_6⟩) (fa_nil)))⟩ dtX1_readProduct (by decide +kernel)
abbrev cc_X1_readSum_6 : scC := (qX1_readSum, 32, [], [.inr (.inr (.inl [23])), .inr (.inr (.inl [1])), .inl (none, 0)], [], [(1, (0, 1), [], [], [])], [(1, 3, 3), (23, 4, 1), (25, 0, 150)])
set_option maxRecDepth 20000 in
abbrev xx_X1_readSum_6 : scX := (Tx, invX, lnX1, [(35, 0, 7, cc_X7_peek_0), (54, 0, 1, cc_X1_readProduct_6), (57, 0, 1, cc_X1_emit_0)], cc_X1_readSum_6)
set_option maxRecDepth 20000 in
theorem hh_X1_readSum_6 : scH Tx invX cc_X1_readSum_6 := scCheck_ok (X := xx_X1_readSum_6) (nodes := [(10, ([(0, 0), (0, 1), (0, 150)], [some (.inr (.inr (.inl [23]))), some (.inr (.inr (.inl [1]))), some (.inl (some 0, 0)), some (.inl (some 1, 0)), some (.inl (some 2, 0)), none], [], []), ([0, 0, (-2)], 300))]) (fuel := 4000) ⟨lqX1, fa_cons (⟨⟨0, _, pcv_X1_35, rfl⟩, hh_X7_peek_0⟩) (fa_cons (⟨⟨2, _, pcv_X1_54, rfl⟩, hh_X1_readProduct_6⟩) (fa_cons (⟨⟨1, _, pcv_X1_57, rfl⟩, hh_X1_emit_0⟩) (fa_nil)))⟩ dtX1_readSum (by decide +kernel)
abbrev cc_X1_read_0 : scC := (qX1_read, 33, [], [.inr (.inr (.inl [23])), .inr (.inr (.inl [1]))], [], [(1, (0, 1), [], [], [])], [(1, 3, 3), (23, 3, 2), (24, 0, 150), (25, 0, 150)])
set_option maxRecDepth 20000 in
abbrev xx_X1_read_0 : scX := (Tx, invX, lnX1, [(31, 0, 1, cc_X1_readSum_6), (35, 0, 7, cc_X7_peek_0), (44, 0, 7, cc_X7_fail_1)], cc_X1_read_0)
set_option maxRecDepth 20000 in
theorem hh_X1_read_0 : scH Tx invX cc_X1_read_0 := scCheck_ok (X := xx_X1_read_0) (nodes := []) (fuel := 4000) ⟨lqX1, fa_cons (⟨⟨2, _, pcv_X1_31, rfl⟩, hh_X1_readSum_6⟩) (fa_cons (⟨⟨0, _, pcv_X1_35, rfl⟩, hh_X7_peek_0⟩) (fa_cons (⟨⟨2, _, pcv_X1_44, rfl⟩, hh_X7_fail_1⟩) (fa_nil)))⟩ dtX1_read (by decide +kernel)
abbrev cc_X10_law_0 : scC := (qX10_law, 34, [((-2147483648), 2147483647)], [.inr (.inr (.inl [0])), .inl (some 0, 0)], [], [(1, ((-10), 1), [], [], []), (4, (0, 0), [], [], [])], [(0, 16, 1), (1, 1, 5), (23, 3, 2), (24, 0, 150), (25, 0, 150), (34, 5, 1)])
set_option maxRecDepth 20000 in
abbrev xx_X10_law_0 : scX := (Tx, invX, lnX10, [(108, 0, 10, cc_X10_openText_0), (135, 0, 3, cc_X3_forget_0), (141, 0, 1, cc_X1_read_0)], cc_X10_law_0)
set_option maxRecDepth 20000 in
theorem hh_X10_law_0 : scH Tx invX cc_X10_law_0 := scCheck_ok (X := xx_X10_law_0) (nodes := []) (fuel := 4000) ⟨lqX10, fa_cons (⟨⟨2, _, pcv_X10_108, rfl⟩, hh_X10_openText_0⟩) (fa_cons (⟨⟨0, _, pcv_X10_135, rfl⟩, hh_X3_forget_0⟩) (fa_cons (⟨⟨1, _, pcv_X10_141, rfl⟩, hh_X1_read_0⟩) (fa_nil)))⟩ dtX10_law (by decide +kernel)
abbrev cc_J6_bitCount_0f7a4_0 : scC := (qJ6_bitCount_0f7a4, 0, [((-2147483648), 2147483647)], [.inl (some 0, 0)], [], [(1, (0, 63), [], [], [])], [])
set_option maxRecDepth 20000 in
abbrev xx_J6_bitCount_0f7a4_0 : scX := (Tx, invX, lnJ6, [], cc_J6_bitCount_0f7a4_0)
set_option maxRecDepth 20000 in
theorem hh_J6_bitCount_0f7a4_0 : scH Tx invX cc_J6_bitCount_0f7a4_0 := scCheck_ok (X := xx_J6_bitCount_0f7a4_0) (nodes := []) (fuel := 4000) ⟨lqJ6, fa_nil⟩ dtJ6_bitCount_0f7a4 (by decide +kernel)
abbrev cc_X7_takeNumber_19 : scC := (qX7_takeNumber, 2, [(0, 0), (1, 1), (1, 3)], [.inr (.inr (.inl [1])), .inl (some 0, 0), .inl (some 1, 0)], [((1, 4), (some 2, 0))], [(1, (0, 1), [], [], [((1, 4), (1, 3))]), (1, ((-1), (-1)), [], [], [((1, 4), (1, 3))])], [(1, 3, 1)])
set_option maxRecDepth 20000 in
abbrev xx_X7_takeNumber_19 : scX := (Tx, invX, lnX7, [(35, 0, 7, cc_X7_fail_3), (39, 0, 7, cc_X7_nextPlace_0)], cc_X7_takeNumber_19)
set_option maxRecDepth 20000 in
theorem hh_X7_takeNumber_19 : scH Tx invX cc_X7_takeNumber_19 := scCheck_ok (X := xx_X7_takeNumber_19) (nodes := [(8, ([(0, 0), (1, 1), (0, 600), ((-2147483648), 1000000), (1, 3), (0, 600), (0, 600)], [some (.inr (.inr (.inl [1]))), some (.inl (some 0, 0)), some (.inl (some 1, 0)), some (.inl (some 2, 0)), some (.inl (some 3, 0))], [], [((1, 4), (some 4, 0)), ((1, 3), (some 5, 0)), ((1, 2), (some 6, 0))]), ([0, 0, 0, 0, 0, (-2)], 1200))]) (fuel := 4000) ⟨lqX7, fa_cons (⟨⟨2, _, pcv_X7_35, rfl⟩, hh_X7_fail_3⟩) (fa_cons (⟨⟨0, _, pcv_X7_39, rfl⟩, hh_X7_nextPlace_0⟩) (fa_nil))⟩ dtX7_takeNumber (by decide +kernel)
abbrev cc_X7_takeNumber_20 : scC := (qX7_takeNumber, 2, [(0, 0), (1, 1), (0, 3)], [.inr (.inr (.inl [1])), .inl (some 0, 0), .inl (some 1, 0)], [((1, 4), (some 2, 0))], [(1, (0, 1), [], [], [((1, 4), (0, 3))]), (1, ((-1), (-1)), [], [], [((1, 4), (1, 3))])], [(1, 3, 3)])
set_option maxRecDepth 20000 in
abbrev xx_X7_takeNumber_20 : scX := (Tx, invX, lnX7, [(35, 0, 7, cc_X7_fail_1), (35, 0, 7, cc_X7_fail_0), (35, 0, 7, cc_X7_fail_2), (39, 0, 7, cc_X7_nextPlace_0)], cc_X7_takeNumber_20)
set_option maxRecDepth 20000 in
theorem hh_X7_takeNumber_20 : scH Tx invX cc_X7_takeNumber_20 := scCheck_ok (X := xx_X7_takeNumber_20) (nodes := [(8, ([(0, 0), (1, 1), (0, 600), ((-2147483648), 1000000), (0, 3), (0, 600), (0, 600)], [some (.inr (.inr (.inl [1]))), some (.inl (some 0, 0)), some (.inl (some 1, 0)), some (.inl (some 2, 0)), some (.inl (some 3, 0))], [], [((1, 4), (some 4, 0)), ((1, 3), (some 5, 0)), ((1, 2), (some 6, 0))]), ([0, 0, 0, 0, 0, (-2)], 1200))]) (fuel := 4000) ⟨lqX7, fa_cons (⟨⟨2, _, pcv_X7_35, rfl⟩, hh_X7_fail_1⟩) (fa_cons (⟨⟨2, _, pcv_X7_35, rfl⟩, hh_X7_fail_0⟩) (fa_cons (⟨⟨2, _, pcv_X7_35, rfl⟩, hh_X7_fail_2⟩) (fa_cons (⟨⟨0, _, pcv_X7_39, rfl⟩, hh_X7_nextPlace_0⟩) (fa_nil))))⟩ dtX7_takeNumber (by decide +kernel)
abbrev cc_X2_read_0 : scC := (qX2_read, 3, [], [.inr (.inr (.inl [27])), .inr (.inr (.inl [1]))], [], [(1, (0, 1), [], [], [])], [(1, 3, 3), (27, 0, 3)])
set_option maxRecDepth 20000 in
abbrev xx_X2_read_0 : scX := (Tx, invX, lnX2, [(21, 0, 7, cc_X7_peek_0), (27, 0, 7, cc_X7_nextPlace_0), (30, 0, 7, cc_X7_takeNumber_19), (30, 0, 7, cc_X7_takeNumber_10), (30, 0, 7, cc_X7_takeNumber_20), (34, 0, 7, cc_X7_fail_2), (38, 0, 7, cc_X7_takeSign_0), (42, 0, 7, cc_X7_failed_1), (46, 1, 0, cc_J6_bitCount_0f7a4_0)], cc_X2_read_0)
set_option maxRecDepth 20000 in
theorem hh_X2_read_0 : scH Tx invX cc_X2_read_0 := scCheck_ok (X := xx_X2_read_0) (nodes := [(7, ([((-2147483648), 2147483647), ((-2147483648), 2147483647), (0, 7), (0, 3)], [some (.inr (.inr (.inl [27]))), some (.inr (.inr (.inl [1]))), some (.inl (some 0, 0)), some (.inl (some 1, 0)), some (.inl (some 2, 0)), none, none, none], [], [((1, 4), (some 3, 0))]), ([0, 0, (-2)], 14))]) (fuel := 4000) ⟨lqX2, fa_cons (⟨⟨0, _, pcv_X2_21, rfl⟩, hh_X7_peek_0⟩) (fa_cons (⟨⟨0, _, pcv_X2_27, rfl⟩, hh_X7_nextPlace_0⟩) (fa_cons (⟨⟨2, _, pcv_X2_30, rfl⟩, hh_X7_takeNumber_19⟩) (fa_cons (⟨⟨2, _, pcv_X2_30, rfl⟩, hh_X7_takeNumber_10⟩) (fa_cons (⟨⟨2, _, pcv_X2_30, rfl⟩, hh_X7_takeNumber_20⟩) (fa_cons (⟨⟨2, _, pcv_X2_34, rfl⟩, hh_X7_fail_2⟩) (fa_cons (⟨⟨1, _, pcv_X2_38, rfl⟩, hh_X7_takeSign_0⟩) (fa_cons (⟨⟨0, _, pcv_X2_42, rfl⟩, hh_X7_failed_1⟩) (fa_cons (⟨pcs_X2_46, hh_J6_bitCount_0f7a4_0⟩) (fa_nil)))))))))⟩ dtX2_read (by decide +kernel)
abbrev cc_X10_page_0 : scC := (qX10_page, 4, [((-2147483648), 2147483647)], [.inr (.inr (.inl [0])), .inl (some 0, 0)], [], [(1, ((-2147483648), 2147483647), [], [], []), (4, (0, 0), [], [], [])], [(0, 16, 1), (1, 1, 5), (27, 0, 3)])
set_option maxRecDepth 20000 in
abbrev xx_X10_page_0 : scX := (Tx, invX, lnX10, [(108, 0, 10, cc_X10_openText_0), (161, 0, 2, cc_X2_read_0)], cc_X10_page_0)
set_option maxRecDepth 20000 in
theorem hh_X10_page_0 : scH Tx invX cc_X10_page_0 := scCheck_ok (X := xx_X10_page_0) (nodes := []) (fuel := 4000) ⟨lqX10, fa_cons (⟨⟨2, _, pcv_X10_108, rfl⟩, hh_X10_openText_0⟩) (fa_cons (⟨⟨1, _, pcv_X10_161, rfl⟩, hh_X2_read_0⟩) (fa_nil))⟩ dtX10_page (by decide +kernel)
abbrev cc_X10_fault_0 : scC := (qX10_fault, 0, [], [.inr (.inr (.inl [0]))], [], [(1, ((-1), 600), [], [], [])], [])
set_option maxRecDepth 20000 in
abbrev xx_X10_fault_0 : scX := (Tx, invX, lnX10, [], cc_X10_fault_0)
set_option maxRecDepth 20000 in
theorem hh_X10_fault_0 : scH Tx invX cc_X10_fault_0 := scCheck_ok (X := xx_X10_fault_0) (nodes := []) (fuel := 4000) ⟨lqX10, fa_nil⟩ dtX10_fault (by decide +kernel)
abbrev cc_X6_copyFrom_0 : scC := (qX6_copyFrom, 0, [], [.inr (.inr (.inl [47])), .inr (.inr (.inl [50, 51, 52, 53, 54, 55, 56, 57, 58, 59, 60, 61, 62, 63, 64, 65]))], [], [(0, (0, 0), [], [], [])], [(47, 1, 6), (48, 0, 8)])
set_option maxRecDepth 20000 in
abbrev xx_X6_copyFrom_0 : scX := (Tx, invX, lnX6, [], cc_X6_copyFrom_0)
set_option maxRecDepth 20000 in
theorem hh_X6_copyFrom_0 : scH Tx invX cc_X6_copyFrom_0 := scCheck_ok (X := xx_X6_copyFrom_0) (nodes := []) (fuel := 4000) ⟨lqX6, fa_nil⟩ dtX6_copyFrom (by decide +kernel)
abbrev cc_X5_goBack_0 : scC := (qX5_goBack, 1, [], [.inr (.inr (.inl [46]))], [], [(0, (0, 0), [], [], [])], [(46, 2, 1), (47, 1, 6), (48, 0, 8)])
set_option maxRecDepth 20000 in
abbrev xx_X5_goBack_0 : scX := (Tx, invX, lnX5, [(26, 0, 6, cc_X6_copyFrom_0)], cc_X5_goBack_0)
set_option maxRecDepth 20000 in
theorem hh_X5_goBack_0 : scH Tx invX cc_X5_goBack_0 := scCheck_ok (X := xx_X5_goBack_0) (nodes := []) (fuel := 4000) ⟨lqX5, fa_cons (⟨⟨1, _, pcv_X5_26, rfl⟩, hh_X6_copyFrom_0⟩) (fa_nil)⟩ dtX5_goBack (by decide +kernel)
abbrev cc_X10_undo_0 : scC := (qX10_undo, 2, [], [.inr (.inr (.inl [0]))], [], [(1, ((-1), 16), [], [], [])], [(0, 14, 1), (34, 5, 1), (46, 2, 1), (47, 1, 6), (48, 0, 8)])
set_option maxRecDepth 20000 in
abbrev xx_X10_undo_0 : scX := (Tx, invX, lnX10, [(135, 0, 3, cc_X3_forget_0), (166, 0, 5, cc_X5_goBack_0)], cc_X10_undo_0)
set_option maxRecDepth 20000 in
theorem hh_X10_undo_0 : scH Tx invX cc_X10_undo_0 := scCheck_ok (X := xx_X10_undo_0) (nodes := []) (fuel := 4000) ⟨lqX10, fa_cons (⟨⟨0, _, pcv_X10_135, rfl⟩, hh_X3_forget_0⟩) (fa_cons (⟨⟨0, _, pcv_X10_166, rfl⟩, hh_X5_goBack_0⟩) (fa_nil))⟩ dtX10_undo (by decide +kernel)
abbrev cc_X10_needWithin_1 : scC := (qX10_needWithin, 0, [((-2147483648), 2147483647), (0, 0), (8, 8)], [.inr (.inr (.inl [0])), .inl (some 0, 0), .inl (some 1, 0), .inl (some 2, 0)], [], [(0, (0, 0), [], [(0, (0, 8))], []), (4, (0, 0), [], [], [])], [(0, 16, 1)])
set_option maxRecDepth 20000 in
abbrev xx_X10_needWithin_1 : scX := (Tx, invX, lnX10, [], cc_X10_needWithin_1)
set_option maxRecDepth 20000 in
theorem hh_X10_needWithin_1 : scH Tx invX cc_X10_needWithin_1 := scCheck_ok (X := xx_X10_needWithin_1) (nodes := []) (fuel := 4000) ⟨lqX10, fa_nil⟩ dtX10_needWithin (by decide +kernel)
abbrev cc_X6_pieces_0 : scC := (qX6_pieces, 0, [(0, 8)], [.inr (.inr (.inl [47])), .inl (some 0, 0)], [], [(1, ((-2147483648), 2147483647), [], [], [])], [])
set_option maxRecDepth 20000 in
abbrev xx_X6_pieces_0 : scX := (Tx, invX, lnX6, [], cc_X6_pieces_0)
set_option maxRecDepth 20000 in
theorem hh_X6_pieces_0 : scH Tx invX cc_X6_pieces_0 := scCheck_ok (X := xx_X6_pieces_0) (nodes := [(4, ([(0, 8), ((-2147483648), 2147483647), (0, 8), ((-2147483648), 2147483647)], [some (.inr (.inr (.inl [47]))), some (.inl (some 0, 0)), some (.inl (some 1, 0)), some (.inl (some 2, 0))], [], [((48, 0), (some 3, 0))]), ([0, 0, (-2)], 16))]) (fuel := 4000) ⟨lqX6, fa_nil⟩ dtX6_pieces (by decide +kernel)
abbrev cc_X10_told_0 : scC := (qX10_told, 1, [((-2147483648), 2147483647)], [.inr (.inr (.inl [0])), .inl (some 0, 0)], [], [(1, ((-2147483648), 2147483647), [], [], []), (4, (0, 0), [], [], [])], [(0, 16, 1)])
set_option maxRecDepth 20000 in
abbrev xx_X10_told_0 : scX := (Tx, invX, lnX10, [(169, 0, 10, cc_X10_needWithin_1), (182, 1, 0, cc_J6_bitCount_0f7a4_0), (188, 0, 6, cc_X6_pieces_0)], cc_X10_told_0)
set_option maxRecDepth 20000 in
theorem hh_X10_told_0 : scH Tx invX cc_X10_told_0 := scCheck_ok (X := xx_X10_told_0) (nodes := []) (fuel := 4000) ⟨lqX10, fa_cons (⟨⟨3, _, pcv_X10_169, rfl⟩, hh_X10_needWithin_1⟩) (fa_cons (⟨pcs_X10_182, hh_J6_bitCount_0f7a4_0⟩) (fa_cons (⟨⟨1, _, pcv_X10_188, rfl⟩, hh_X6_pieces_0⟩) (fa_nil)))⟩ dtX10_told (by decide +kernel)
abbrev cc_X10_needLife_0 : scC := (qX10_needLife, 0, [((-2147483648), 2147483647)], [.inr (.inr (.inl [0])), .inl (some 0, 0)], [], [(0, (0, 0), [], [(0, (0, 7))], []), (5, (0, 0), [], [], [])], [(0, 15, 1)])
set_option maxRecDepth 20000 in
abbrev xx_X10_needLife_0 : scX := (Tx, invX, lnX10, [], cc_X10_needLife_0)
set_option maxRecDepth 20000 in
theorem hh_X10_needLife_0 : scH Tx invX cc_X10_needLife_0 := scCheck_ok (X := xx_X10_needLife_0) (nodes := []) (fuel := 4000) ⟨lqX10, fa_nil⟩ dtX10_needLife (by decide +kernel)
abbrev cc_X10_needWithin_2 : scC := (qX10_needWithin, 0, [((-2147483648), 2147483647), (0, 0), (7, 7)], [.inr (.inr (.inl [0])), .inl (some 0, 0), .inl (some 1, 0), .inl (some 2, 0)], [], [(0, (0, 0), [], [(0, (0, 7))], []), (4, (0, 0), [], [], [])], [(0, 16, 1)])
set_option maxRecDepth 20000 in
abbrev xx_X10_needWithin_2 : scX := (Tx, invX, lnX10, [], cc_X10_needWithin_2)
set_option maxRecDepth 20000 in
theorem hh_X10_needWithin_2 : scH Tx invX cc_X10_needWithin_2 := scCheck_ok (X := xx_X10_needWithin_2) (nodes := []) (fuel := 4000) ⟨lqX10, fa_nil⟩ dtX10_needWithin (by decide +kernel)
abbrev cc_X6_isAlive_0 : scC := (qX6_isAlive, 0, [((-2147483648), 2147483647)], [.inr (.inr (.inl [47])), .inl (some 0, 0)], [], [(1, (0, 1), [], [], [])], [])
set_option maxRecDepth 20000 in
abbrev xx_X6_isAlive_0 : scX := (Tx, invX, lnX6, [], cc_X6_isAlive_0)
set_option maxRecDepth 20000 in
theorem hh_X6_isAlive_0 : scH Tx invX cc_X6_isAlive_0 := scCheck_ok (X := xx_X6_isAlive_0) (nodes := []) (fuel := 4000) ⟨lqX6, fa_nil⟩ dtX6_isAlive (by decide +kernel)
abbrev cc_X8_renewHours_0 : scC := (qX8_renewHours, 1, [(0, 7)], [.inr (.inr (.inl [3])), .inl (some 0, 0)], [], [(1, (1, 9), [], [], [])], [])
set_option maxRecDepth 20000 in
abbrev xx_X8_renewHours_0 : scX := (Tx, invX, lnX8, [], cc_X8_renewHours_0)
set_option maxRecDepth 20000 in
theorem hh_X8_renewHours_0 : scH Tx invX cc_X8_renewHours_0 := scCheck_ok (X := xx_X8_renewHours_0) (nodes := []) (fuel := 4000) ⟨lqX8, fa_nil⟩ dtX8_renewHours (by decide +kernel)
abbrev cc_X0_yearsWhen_0 : scC := (qX0_yearsWhen, 0, [(0, 7), (0, 7)], [.inr (.inr (.inl [32])), .inr (.inr (.inl [47])), .inl (some 0, 0), .inl (some 1, 0)], [], [(1, (0, 317), [], [], [])], [])
set_option maxRecDepth 20000 in
abbrev xx_X0_yearsWhen_0 : scX := (Tx, invX, lnX0, [], cc_X0_yearsWhen_0)
set_option maxRecDepth 20000 in
theorem hh_X0_yearsWhen_0 : scH Tx invX cc_X0_yearsWhen_0 := scCheck_ok (X := xx_X0_yearsWhen_0) (nodes := []) (fuel := 4000) ⟨lqX0, fa_nil⟩ dtX0_yearsWhen (by decide +kernel)
abbrev cc_X10_life_0 : scC := (qX10_life, 2, [((-2147483648), 2147483647), ((-2147483648), 2147483647)], [.inr (.inr (.inl [0])), .inl (some 0, 0), .inl (some 1, 0)], [], [(1, ((-2147483648), 2147483647), [], [], []), (4, (0, 0), [], [], []), (5, (0, 0), [], [], [])], [(0, 15, 2)])
set_option maxRecDepth 20000 in
abbrev xx_X10_life_0 : scX := (Tx, invX, lnX10, [(169, 0, 10, cc_X10_needWithin_2), (197, 0, 10, cc_X10_needLife_0), (200, 0, 0, cc_X0_yearsWhen_0), (212, 0, 8, cc_X8_renewHours_0), (215, 0, 6, cc_X6_isAlive_0)], cc_X10_life_0)
set_option maxRecDepth 20000 in
theorem hh_X10_life_0 : scH Tx invX cc_X10_life_0 := scCheck_ok (X := xx_X10_life_0) (nodes := []) (fuel := 4000) ⟨lqX10, fa_cons (⟨⟨3, _, pcv_X10_169, rfl⟩, hh_X10_needWithin_2⟩) (fa_cons (⟨⟨1, _, pcv_X10_197, rfl⟩, hh_X10_needLife_0⟩) (fa_cons (⟨⟨3, _, pcv_X10_200, rfl⟩, hh_X0_yearsWhen_0⟩) (fa_cons (⟨⟨1, _, pcv_X10_212, rfl⟩, hh_X8_renewHours_0⟩) (fa_cons (⟨⟨1, _, pcv_X10_215, rfl⟩, hh_X6_isAlive_0⟩) (fa_nil)))))⟩ dtX10_life (by decide +kernel)
abbrev cc_X8_factBits_0 : scC := (qX8_factBits, 0, [((-2147483648), 2147483647), ((-2147483648), 2147483647)], [.inr (.inr (.inl [3])), .inl (some 0, 0), .inl (some 1, 0)], [], [(1, ((-2147483648), 2147483647), [], [], [])], [])
set_option maxRecDepth 20000 in
abbrev xx_X8_factBits_0 : scX := (Tx, invX, lnX8, [], cc_X8_factBits_0)
set_option maxRecDepth 20000 in
theorem hh_X8_factBits_0 : scH Tx invX cc_X8_factBits_0 := scCheck_ok (X := xx_X8_factBits_0) (nodes := [(5, ([((-2147483648), 2147483647), ((-2147483648), 2147483647), ((-2147483648), 2147483647), (0, 24), (0, 5), (0, 60), (0, 7), (0, 24)], [some (.inr (.inr (.inl [3]))), some (.inl (some 0, 0)), some (.inl (some 1, 0)), some (.inl (some 2, 0)), some (.inl (some 3, 0))], [], [((11, 0), (some 4, 0)), ((12, 0), (some 5, 0)), ((10, 0), (some 6, 0)), ((3, 10), (some 7, 0))]), ([0, 0, 0, (-2)], 48))]) (fuel := 4000) ⟨lqX8, fa_nil⟩ dtX8_factBits (by decide +kernel)
abbrev cc_X10_facts_0 : scC := (qX10_facts, 1, [((-2147483648), 2147483647)], [.inr (.inr (.inl [0])), .inl (some 0, 0)], [], [(1, ((-2147483648), 2147483647), [], [], []), (5, (0, 0), [], [], [])], [(0, 15, 1)])
set_option maxRecDepth 20000 in
abbrev xx_X10_facts_0 : scX := (Tx, invX, lnX10, [(197, 0, 10, cc_X10_needLife_0), (225, 0, 8, cc_X8_factBits_0)], cc_X10_facts_0)
set_option maxRecDepth 20000 in
theorem hh_X10_facts_0 : scH Tx invX cc_X10_facts_0 := scCheck_ok (X := xx_X10_facts_0) (nodes := []) (fuel := 4000) ⟨lqX10, fa_cons (⟨⟨1, _, pcv_X10_197, rfl⟩, hh_X10_needLife_0⟩) (fa_cons (⟨⟨2, _, pcv_X10_225, rfl⟩, hh_X8_factBits_0⟩) (fa_nil))⟩ dtX10_facts (by decide +kernel)
abbrev cc_X8_changesBetween_0 : scC := (qX8_changesBetween, 0, [((-2147483648), 2147483647), ((-2147483648), 2147483647), ((-2147483648), 2147483647)], [.inr (.inr (.inl [3])), .inl (some 0, 0), .inl (some 1, 0), .inl (some 2, 0)], [], [(1, ((-2147483648), 2147483647), [], [], [])], [])
set_option maxRecDepth 20000 in
abbrev xx_X8_changesBetween_0 : scX := (Tx, invX, lnX8, [], cc_X8_changesBetween_0)
set_option maxRecDepth 20000 in
theorem hh_X8_changesBetween_0 : scH Tx invX cc_X8_changesBetween_0 := scCheck_ok (X := xx_X8_changesBetween_0) (nodes := [(6, ([((-2147483648), 2147483647), ((-2147483648), 2147483647), ((-2147483648), 2147483647), ((-2147483648), 2147483647), (0, 24), (0, 60), (0, 7), (0, 24)], [some (.inr (.inr (.inl [3]))), some (.inl (some 0, 0)), some (.inl (some 1, 0)), some (.inl (some 2, 0)), some (.inl (some 3, 0)), some (.inl (some 4, 0))], [], [((12, 0), (some 5, 0)), ((10, 0), (some 6, 0)), ((3, 10), (some 7, 0))]), ([0, 0, 0, 0, (-2)], 48))]) (fuel := 4000) ⟨lqX8, fa_nil⟩ dtX8_changesBetween (by decide +kernel)
abbrev cc_X0_signerDead_0 : scC := (qX0_signerDead, 1, [(0, 7)], [.inr (.inr (.inl [32])), .inr (.inr (.inl [47])), .inl (some 0, 0)], [], [(1, (0, 1), [], [], [])], [])
set_option maxRecDepth 20000 in
abbrev xx_X0_signerDead_0 : scX := (Tx, invX, lnX0, [(38, 0, 6, cc_X6_isAlive_0)], cc_X0_signerDead_0)
set_option maxRecDepth 20000 in
theorem hh_X0_signerDead_0 : scH Tx invX cc_X0_signerDead_0 := scCheck_ok (X := xx_X0_signerDead_0) (nodes := []) (fuel := 4000) ⟨lqX0, fa_cons (⟨⟨1, _, pcv_X0_38, rfl⟩, hh_X6_isAlive_0⟩) (fa_nil)⟩ dtX0_signerDead (by decide +kernel)
abbrev cc_X1_joined_0 : scC := (qX1_joined, 0, [((-2147483648), 2147483647), ((-2147483648), 2147483647), ((-2147483648), 2147483647)], [.inl (some 0, 0), .inl (some 1, 0), .inl (some 2, 0)], [], [(1, ((-2147483648), 2147483647), [], [], [])], [])
set_option maxRecDepth 20000 in
abbrev xx_X1_joined_0 : scX := (Tx, invX, lnX1, [], cc_X1_joined_0)
set_option maxRecDepth 20000 in
theorem hh_X1_joined_0 : scH Tx invX cc_X1_joined_0 := scCheck_ok (X := xx_X1_joined_0) (nodes := []) (fuel := 4000) ⟨lqX1, fa_nil⟩ dtX1_joined (by decide +kernel)
abbrev cc_X1_outcome_0 : scC := (qX1_outcome, 1, [((-2147483648), 2147483647), ((-2147483648), 2147483647), ((-2147483648), 2147483647), ((-2147483648), 2147483647), ((-2147483648), 2147483647)], [.inr (.inr (.inl [23])), .inl (some 0, 0), .inl (some 1, 0), .inl (some 2, 0), .inl (some 3, 0), .inl (some 4, 0)], [], [(1, (0, 64), [], [], [])], [(26, 0, 24)])
set_option maxRecDepth 20000 in
abbrev xx_X1_outcome_0 : scX := (Tx, invX, lnX1, [(85, 1, 0, cc_X1_joined_0)], cc_X1_outcome_0)
set_option maxRecDepth 20000 in
theorem hh_X1_outcome_0 : scH Tx invX cc_X1_outcome_0 := scCheck_ok (X := xx_X1_outcome_0) (nodes := [(6, ([((-2147483648), 2147483647), ((-2147483648), 2147483647), ((-2147483648), 2147483647), ((-2147483648), 2147483647), ((-2147483648), 2147483647), (0, 24), (0, 150), ((-2147483648), 2147483647), ((-2147483648), 2147483647), (0, 150), ((-2147483648), 2147483647)], [some (.inr (.inr (.inl [23]))), some (.inl (some 0, 0)), some (.inl (some 1, 0)), some (.inl (some 2, 0)), some (.inl (some 3, 0)), some (.inl (some 4, 0)), some (.inl (some 5, 0)), some (.inl (some 6, 0)), none], [], [((26, 0), (some 7, 0)), ((24, 0), (some 8, 0)), ((23, 3), (some 9, 0)), ((26, 1), (some 10, 0))]), ([0, 0, 0, 0, 0, 0, (-2)], 300))]) (fuel := 4000) ⟨lqX1, fa_cons (⟨pcs_X1_85, hh_X1_joined_0⟩) (fa_nil)⟩ dtX1_outcome (by decide +kernel)
abbrev cc_X0_wrongWhen_0 : scC := (qX0_wrongWhen, 2, [(0, 7), (0, 7), ((-2147483648), 2147483647)], [.inr (.inr (.inl [32])), .inr (.inr (.inl [47])), .inl (some 0, 0), .inl (some 1, 0), .inl (some 2, 0)], [], [(1, (0, 64), [], [], [])], [(26, 0, 24)])
set_option maxRecDepth 20000 in
abbrev xx_X0_wrongWhen_0 : scX := (Tx, invX, lnX0, [(42, 0, 8, cc_X8_changesBetween_0), (46, 0, 0, cc_X0_yearsWhen_0), (53, 0, 0, cc_X0_signerDead_0), (57, 0, 1, cc_X1_outcome_0)], cc_X0_wrongWhen_0)
set_option maxRecDepth 20000 in
theorem hh_X0_wrongWhen_0 : scH Tx invX cc_X0_wrongWhen_0 := scCheck_ok (X := xx_X0_wrongWhen_0) (nodes := []) (fuel := 4000) ⟨lqX0, fa_cons (⟨⟨3, _, pcv_X0_42, rfl⟩, hh_X8_changesBetween_0⟩) (fa_cons (⟨⟨3, _, pcv_X0_46, rfl⟩, hh_X0_yearsWhen_0⟩) (fa_cons (⟨⟨2, _, pcv_X0_53, rfl⟩, hh_X0_signerDead_0⟩) (fa_cons (⟨⟨5, _, pcv_X0_57, rfl⟩, hh_X1_outcome_0⟩) (fa_nil))))⟩ dtX0_wrongWhen (by decide +kernel)
abbrev cc_X10_wrong_0 : scC := (qX10_wrong, 3, [((-2147483648), 2147483647)], [.inr (.inr (.inl [0])), .inl (some 0, 0)], [], [(1, ((-1), 64), [], [], []), (5, (0, 0), [], [], [])], [(0, 15, 1), (26, 0, 24)])
set_option maxRecDepth 20000 in
abbrev xx_X10_wrong_0 : scX := (Tx, invX, lnX10, [(197, 0, 10, cc_X10_needLife_0), (229, 0, 0, cc_X0_wrongWhen_0)], cc_X10_wrong_0)
set_option maxRecDepth 20000 in
theorem hh_X10_wrong_0 : scH Tx invX cc_X10_wrong_0 := scCheck_ok (X := xx_X10_wrong_0) (nodes := []) (fuel := 4000) ⟨lqX10, fa_cons (⟨⟨1, _, pcv_X10_197, rfl⟩, hh_X10_needLife_0⟩) (fa_cons (⟨⟨4, _, pcv_X10_229, rfl⟩, hh_X0_wrongWhen_0⟩) (fa_nil))⟩ dtX10_wrong (by decide +kernel)
abbrev cc_X10_needWithin_3 : scC := (qX10_needWithin, 0, [((-2147483648), 2147483647), (0, 0), (200, 200)], [.inr (.inr (.inl [0])), .inl (some 0, 0), .inl (some 1, 0), .inl (some 2, 0)], [], [(0, (0, 0), [], [(0, (0, 200))], []), (4, (0, 0), [], [], [])], [(0, 16, 1)])
set_option maxRecDepth 20000 in
abbrev xx_X10_needWithin_3 : scX := (Tx, invX, lnX10, [], cc_X10_needWithin_3)
set_option maxRecDepth 20000 in
theorem hh_X10_needWithin_3 : scH Tx invX cc_X10_needWithin_3 := scCheck_ok (X := xx_X10_needWithin_3) (nodes := []) (fuel := 4000) ⟨lqX10, fa_nil⟩ dtX10_needWithin (by decide +kernel)
abbrev cc_X10_needWithin_4 : scC := (qX10_needWithin, 0, [((-2147483648), 2147483647), (1, 1), (99, 99)], [.inr (.inr (.inl [0])), .inl (some 0, 0), .inl (some 1, 0), .inl (some 2, 0)], [], [(0, (0, 0), [], [(0, (1, 99))], []), (4, (0, 0), [], [], [])], [(0, 16, 1)])
set_option maxRecDepth 20000 in
abbrev xx_X10_needWithin_4 : scX := (Tx, invX, lnX10, [], cc_X10_needWithin_4)
set_option maxRecDepth 20000 in
theorem hh_X10_needWithin_4 : scH Tx invX cc_X10_needWithin_4 := scCheck_ok (X := xx_X10_needWithin_4) (nodes := []) (fuel := 4000) ⟨lqX10, fa_nil⟩ dtX10_needWithin (by decide +kernel)
abbrev cc_X10_needWithin_5 : scC := (qX10_needWithin, 0, [((-2147483648), 2147483647), (0, 0), (1, 1)], [.inr (.inr (.inl [0])), .inl (some 0, 0), .inl (some 1, 0), .inl (some 2, 0)], [], [(0, (0, 0), [], [(0, (0, 1))], []), (4, (0, 0), [], [], [])], [(0, 16, 1)])
set_option maxRecDepth 20000 in
abbrev xx_X10_needWithin_5 : scX := (Tx, invX, lnX10, [], cc_X10_needWithin_5)
set_option maxRecDepth 20000 in
theorem hh_X10_needWithin_5 : scH Tx invX cc_X10_needWithin_5 := scCheck_ok (X := xx_X10_needWithin_5) (nodes := []) (fuel := 4000) ⟨lqX10, fa_nil⟩ dtX10_needWithin (by decide +kernel)
abbrev cc_X10_needWithin_6 : scC := (qX10_needWithin, 0, [((-2147483648), 2147483647), (0, 0), (24, 24)], [.inr (.inr (.inl [0])), .inl (some 0, 0), .inl (some 1, 0), .inl (some 2, 0)], [], [(0, (0, 0), [], [(0, (0, 24))], []), (4, (0, 0), [], [], [])], [(0, 16, 1)])
set_option maxRecDepth 20000 in
abbrev xx_X10_needWithin_6 : scX := (Tx, invX, lnX10, [], cc_X10_needWithin_6)
set_option maxRecDepth 20000 in
theorem hh_X10_needWithin_6 : scH Tx invX cc_X10_needWithin_6 := scCheck_ok (X := xx_X10_needWithin_6) (nodes := []) (fuel := 4000) ⟨lqX10, fa_nil⟩ dtX10_needWithin (by decide +kernel)
abbrev cc_X10_would_0 : scC := (qX10_would, 2, [((-2147483648), 2147483647), ((-2147483648), 2147483647), ((-2147483648), 2147483647), ((-2147483648), 2147483647), ((-2147483648), 2147483647)], [.inr (.inr (.inl [0])), .inl (some 0, 0), .inl (some 1, 0), .inl (some 2, 0), .inl (some 3, 0), .inl (some 4, 0)], [], [(1, (0, 64), [], [], []), (4, (0, 0), [], [], [])], [(0, 16, 1), (26, 0, 24)])
set_option maxRecDepth 20000 in
abbrev xx_X10_would_0 : scX := (Tx, invX, lnX10, [(169, 0, 10, cc_X10_needWithin_3), (169, 0, 10, cc_X10_needWithin_4), (169, 0, 10, cc_X10_needWithin_5), (169, 0, 10, cc_X10_needWithin_6), (233, 0, 1, cc_X1_outcome_0)], cc_X10_would_0)
set_option maxRecDepth 20000 in
theorem hh_X10_would_0 : scH Tx invX cc_X10_would_0 := scCheck_ok (X := xx_X10_would_0) (nodes := []) (fuel := 4000) ⟨lqX10, fa_cons (⟨⟨3, _, pcv_X10_169, rfl⟩, hh_X10_needWithin_3⟩) (fa_cons (⟨⟨3, _, pcv_X10_169, rfl⟩, hh_X10_needWithin_4⟩) (fa_cons (⟨⟨3, _, pcv_X10_169, rfl⟩, hh_X10_needWithin_5⟩) (fa_cons (⟨⟨3, _, pcv_X10_169, rfl⟩, hh_X10_needWithin_6⟩) (fa_cons (⟨⟨5, _, pcv_X10_233, rfl⟩, hh_X1_outcome_0⟩) (fa_nil)))))⟩ dtX10_would (by decide +kernel)
abbrev cc_X10_lacking_0 : scC := (qX10_lacking, 1, [], [.inr (.inr (.inl [0]))], [], [(1, ((-2147483648), 2147483647), [], [], [])], [])
set_option maxRecDepth 20000 in
abbrev xx_X10_lacking_0 : scX := (Tx, invX, lnX10, [(215, 0, 6, cc_X6_isAlive_0)], cc_X10_lacking_0)
set_option maxRecDepth 20000 in
theorem hh_X10_lacking_0 : scH Tx invX cc_X10_lacking_0 := scCheck_ok (X := xx_X10_lacking_0) (nodes := [(4, ([((-2147483648), 2147483647), (0, 8), ((-2147483648), 2147483647), (0, 8)], [some (.inr (.inr (.inl [0]))), some (.inl (some 0, 0)), some (.inl (some 1, 0))], [], [((48, 0), (some 2, 0)), ((3, 9), (some 3, 0))]), ([0, (-2)], 16))]) (fuel := 4000) ⟨lqX10, fa_cons (⟨⟨1, _, pcv_X10_215, rfl⟩, hh_X6_isAlive_0⟩) (fa_nil)⟩ dtX10_lacking (by decide +kernel)
abbrev cc_X10_signed_0 : scC := (qX10_signed, 2, [], [.inr (.inr (.inl [0]))], [], [(1, ((-2147483648), 2147483647), [], [], [])], [])
set_option maxRecDepth 20000 in
abbrev xx_X10_signed_0 : scX := (Tx, invX, lnX10, [(237, 0, 0, cc_X0_signerDead_0)], cc_X10_signed_0)
set_option maxRecDepth 20000 in
theorem hh_X10_signed_0 : scH Tx invX cc_X10_signed_0 := scCheck_ok (X := xx_X10_signed_0) (nodes := [(4, ([((-2147483648), 2147483647), (0, 8), ((-2147483648), 2147483647), (0, 8)], [some (.inr (.inr (.inl [0]))), some (.inl (some 0, 0)), some (.inl (some 1, 0))], [], [((48, 0), (some 2, 0)), ((3, 9), (some 3, 0))]), ([0, (-2)], 16))]) (fuel := 4000) ⟨lqX10, fa_cons (⟨⟨2, _, pcv_X10_237, rfl⟩, hh_X0_signerDead_0⟩) (fa_nil)⟩ dtX10_signed (by decide +kernel)
abbrev cc_X10_needWithin_7 : scC := (qX10_needWithin, 0, [((-2147483648), 2147483647), (0, 0), (65, 65)], [.inr (.inr (.inl [0])), .inl (some 0, 0), .inl (some 1, 0), .inl (some 2, 0)], [], [(0, (0, 0), [], [(0, (0, 65))], []), (4, (0, 0), [], [], [])], [(0, 16, 1)])
set_option maxRecDepth 20000 in
abbrev xx_X10_needWithin_7 : scX := (Tx, invX, lnX10, [], cc_X10_needWithin_7)
set_option maxRecDepth 20000 in
theorem hh_X10_needWithin_7 : scH Tx invX cc_X10_needWithin_7 := scCheck_ok (X := xx_X10_needWithin_7) (nodes := []) (fuel := 4000) ⟨lqX10, fa_nil⟩ dtX10_needWithin (by decide +kernel)
