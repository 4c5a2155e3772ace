abbrev cc_X7_fail_97 : scC := (qX7_fail, 0, [((-2147483648), 2147483647), ((-2147483648), 2147483647), (1, 3)], [.inr (.inr (.inl [1])), .inl (some 0, 0), .inl (some 1, 0)], [((1, 4), (some 2, 0))], [(1, (0, 0), [], [], [((1, 4), (1, 3))])], [])
set_option maxRecDepth 20000 in
abbrev xx_X7_fail_97 : scX := (Tx, invX, lnX7, [], cc_X7_fail_97)
set_option maxRecDepth 20000 in
theorem hh_X7_fail_97 : scH Tx invX cc_X7_fail_97 := scCheck_ok (X := xx_X7_fail_97) (nodes := []) (fuel := 4000) ⟨lqX7, fa_nil⟩ dtX7_fail (by decide +kernel)
abbrev cc_X7_fail_98 : scC := (qX7_fail, 0, [((-2147483648), 2147483647), ((-2147483648), 2147483647), (1, 3)], [.inr (.inr (.inl [1])), .inl (some 0, 0), .inl (some 1, 0)], [((1, 4), (some 2, 0))], [(1, (0, 0), [], [], [((1, 4), (1, 3))])], [])
set_option maxRecDepth 20000 in
abbrev xx_X7_fail_98 : scX := (Tx, invX, lnX7, [], cc_X7_fail_98)
set_option maxRecDepth 20000 in
theorem hh_X7_fail_98 : scH Tx invX cc_X7_fail_98 := scCheck_ok (X := xx_X7_fail_98) (nodes := []) (fuel := 4000) ⟨lqX7, fa_nil⟩ dtX7_fail (by decide +kernel)
abbrev cc_X7_fail_99 : scC := (qX7_fail, 0, [((-2147483648), 2147483647), ((-2147483648), 2147483647), (1, 3)], [.inr (.inr (.inl [1])), .inl (some 0, 0), .inl (some 1, 0)], [((1, 4), (some 2, 0))], [(1, (0, 0), [], [], [((1, 4), (1, 3))])], [])
set_option maxRecDepth 20000 in
abbrev xx_X7_fail_99 : scX := (Tx, invX, lnX7, [], cc_X7_fail_99)
set_option maxRecDepth 20000 in
theorem hh_X7_fail_99 : scH Tx invX cc_X7_fail_99 := scCheck_ok (X := xx_X7_fail_99) (nodes := []) (fuel := 4000) ⟨lqX7, fa_nil⟩ dtX7_fail (by decide +kernel)
abbrev cc_X7_fail_100 : scC := (qX7_fail, 0, [((-2147483648), 2147483647), ((-2147483648), 2147483647), (1, 3)], [.inr (.inr (.inl [1])), .inl (some 0, 0), .inl (some 1, 0)], [((1, 4), (some 2, 0))], [(1, (0, 0), [], [], [((1, 4), (1, 3))])], [])
set_option maxRecDepth 20000 in
abbrev xx_X7_fail_100 : scX := (Tx, invX, lnX7, [], cc_X7_fail_100)
set_option maxRecDepth 20000 in
theorem hh_X7_fail_100 : scH Tx invX cc_X7_fail_100 := scCheck_ok (X := xx_X7_fail_100) (nodes := []) (fuel := 4000) ⟨lqX7, fa_nil⟩ dtX7_fail (by decide +kernel)
abbrev cc_X7_fail_101 : scC := (qX7_fail, 0, [((-2147483648), 2147483647), ((-2147483648), 2147483647), (1, 3)], [.inr (.inr (.inl [1])), .inl (some 0, 0), .inl (some 1, 0)], [((1, 4), (some 2, 0))], [(1, (0, 0), [], [], [((1, 4), (1, 3))])], [])
set_option maxRecDepth 20000 in
abbrev xx_X7_fail_101 : scX := (Tx, invX, lnX7, [], cc_X7_fail_101)
set_option maxRecDepth 20000 in
theorem hh_X7_fail_101 : scH Tx invX cc_X7_fail_101 := scCheck_ok (X := xx_X7_fail_101) (nodes := []) (fuel := 4000) ⟨lqX7, fa_nil⟩ dtX7_fail (by decide +kernel)
abbrev cc_X7_fail_102 : scC := (qX7_fail, 0, [((-2147483648), 2147483647), ((-2147483648), 2147483647), (1, 3)], [.inr (.inr (.inl [1])), .inl (some 0, 0), .inl (some 1, 0)], [((1, 4), (some 2, 0))], [(1, (0, 0), [], [], [((1, 4), (1, 3))])], [])
set_option maxRecDepth 20000 in
abbrev xx_X7_fail_102 : scX := (Tx, invX, lnX7, [], cc_X7_fail_102)
set_option maxRecDepth 20000 in
theorem hh_X7_fail_102 : scH Tx invX cc_X7_fail_102 := scCheck_ok (X := xx_X7_fail_102) (nodes := []) (fuel := 4000) ⟨lqX7, fa_nil⟩ dtX7_fail (by decide +kernel)
abbrev cc_X7_fail_103 : scC := (qX7_fail, 0, [((-2147483648), 2147483647), ((-2147483648), 2147483647), (1, 3)], [.inr (.inr (.inl [1])), .inl (some 0, 0), .inl (some 1, 0)], [((1, 4), (some 2, 0))], [(1, (0, 0), [], [], [((1, 4), (1, 3))])], [])
set_option maxRecDepth 20000 in
abbrev xx_X7_fail_103 : scX := (Tx, invX, lnX7, [], cc_X7_fail_103)
set_option maxRecDepth 20000 in
theorem hh_X7_fail_103 : scH Tx invX cc_X7_fail_103 := scCheck_ok (X := xx_X7_fail_103) (nodes := []) (fuel := 4000) ⟨lqX7, fa_nil⟩ dtX7_fail (by decide +kernel)
abbrev cc_X7_fail_104 : scC := (qX7_fail, 0, [((-2147483648), 2147483647), ((-2147483648), 2147483647), (1, 3)], [.inr (.inr (.inl [1])), .inl (some 0, 0), .inl (some 1, 0)], [((1, 4), (some 2, 0))], [(1, (0, 0), [], [], [((1, 4), (1, 3))])], [])
set_option maxRecDepth 20000 in
abbrev xx_X7_fail_104 : scX := (Tx, invX, lnX7, [], cc_X7_fail_104)
set_option maxRecDepth 20000 in
theorem hh_X7_fail_104 : scH Tx invX cc_X7_fail_104 := scCheck_ok (X := xx_X7_fail_104) (nodes := []) (fuel := 4000) ⟨lqX7, fa_nil⟩ dtX7_fail (by decide +kernel)
abbrev cc_X7_fail_105 : scC := (qX7_fail, 0, [((-2147483648), 2147483647), ((-2147483648), 2147483647), (1, 3)], [.inr (.inr (.inl [1])), .inl (some 0, 0), .inl (some 1, 0)], [((1, 4), (some 2, 0))], [(1, (0, 0), [], [], [((1, 4), (1, 3))])], [])
set_option maxRecDepth 20000 in
abbrev xx_X7_fail_105 : scX := (Tx, invX, lnX7, [], cc_X7_fail_105)
set_option maxRecDepth 20000 in
theorem hh_X7_fail_105 : scH Tx invX cc_X7_fail_105 := scCheck_ok (X := xx_X7_fail_105) (nodes := []) (fuel := 4000) ⟨lqX7, fa_nil⟩ dtX7_fail (by decide +kernel)
abbrev cc_X7_fail_106 : scC := (qX7_fail, 0, [((-2147483648), 2147483647), ((-2147483648), 2147483647), (1, 3)], [.inr (.inr (.inl [1])), .inl (some 0, 0), .inl (some 1, 0)], [((1, 4), (some 2, 0))], [(1, (0, 0), [], [], [((1, 4), (1, 3))])], [])
set_option maxRecDepth 20000 in
abbrev xx_X7_fail_106 : scX := (Tx, invX, lnX7, [], cc_X7_fail_106)
set_option maxRecDepth 20000 in
theorem hh_X7_fail_106 : scH Tx invX cc_X7_fail_106 := scCheck_ok (X := xx_X7_fail_106) (nodes := []) (fuel := 4000) ⟨lqX7, fa_nil⟩ dtX7_fail (by decide +kernel)
abbrev cc_X7_fail_107 : scC := (qX7_fail, 0, [((-2147483648), 2147483647), ((-2147483648), 2147483647), (1, 3)], [.inr (.inr (.inl [1])), .inl (some 0, 0), .inl (some 1, 0)], [((1, 4), (some 2, 0))], [(1, (0, 0), [], [], [((1, 4), (1, 3))])], [])
set_option maxRecDepth 20000 in
abbrev xx_X7_fail_107 : scX := (Tx, invX, lnX7, [], cc_X7_fail_107)
set_option maxRecDepth 20000 in
theorem hh_X7_fail_107 : scH Tx invX cc_X7_fail_107 := scCheck_ok (X := xx_X7_fail_107) (nodes := []) (fuel := 4000) ⟨lqX7, fa_nil⟩ dtX7_fail (by decide +kernel)
abbrev cc_X7_fail_108 : scC := (qX7_fail, 0, [((-2147483648), 2147483647), ((-2147483648), 2147483647), (1, 3)], [.inr (.inr (.inl [1])), .inl (some 0, 0), .inl (some 1, 0)], [((1, 4), (some 2, 0))], [(1, (0, 0), [], [], [((1, 4), (1, 3))])], [])
set_option maxRecDepth 20000 in
abbrev xx_X7_fail_108 : scX := (Tx, invX, lnX7, [], cc_X7_fail_108)
set_option maxRecDepth 20000 in
theorem hh_X7_fail_108 : scH Tx invX cc_X7_fail_108 := scCheck_ok (X := xx_X7_fail_108) (nodes := []) (fuel := 4000) ⟨lqX7, fa_nil⟩ dtX7_fail (by decide +kernel)
abbrev cc_X7_fail_109 : scC := (qX7_fail, 0, [((-2147483648), 2147483647), ((-2147483648), 2147483647), (1, 3)], [.inr (.inr (.inl [1])), .inl (some 0, 0), .inl (some 1, 0)], [((1, 4), (some 2, 0))], [(1, (0, 0), [], [], [((1, 4), (1, 3))])], [])
set_option maxRecDepth 20000 in
abbrev xx_X7_fail_109 : scX := (Tx, invX, lnX7, [], cc_X7_fail_109)
set_option maxRecDepth 20000 in
theorem hh_X7_fail_109 : scH Tx invX cc_X7_fail_109 := scCheck_ok (X := xx_X7_fail_109) (nodes := []) (fuel := 4000) ⟨lqX7, fa_nil⟩ dtX7_fail (by decide +kernel)
abbrev cc_X7_fail_110 : scC := (qX7_fail, 0, [((-2147483648), 2147483647), ((-2147483648), 2147483647), (1, 3)], [.inr (.inr (.inl [1])), .inl (some 0, 0), .inl (some 1, 0)], [((1, 4), (some 2, 0))], [(1, (0, 0), [], [], [((1, 4), (1, 3))])], [])
set_option maxRecDepth 20000 in
abbrev xx_X7_fail_110 : scX := (Tx, invX, lnX7, [], cc_X7_fail_110)
set_option maxRecDepth 20000 in
theorem hh_X7_fail_110 : scH Tx invX cc_X7_fail_110 := scCheck_ok (X := xx_X7_fail_110) (nodes := []) (fuel := 4000) ⟨lqX7, fa_nil⟩ dtX7_fail (by decide +kernel)
abbrev cc_X7_fail_111 : scC := (qX7_fail, 0, [((-2147483648), 2147483647), ((-2147483648), 2147483647), (1, 3)], [.inr (.inr (.inl [1])), .inl (some 0, 0), .inl (some 1, 0)], [((1, 4), (some 2, 0))], [(1, (0, 0), [], [], [((1, 4), (1, 3))])], [])
set_option maxRecDepth 20000 in
abbrev xx_X7_fail_111 : scX := (Tx, invX, lnX7, [], cc_X7_fail_111)
set_option maxRecDepth 20000 in
theorem hh_X7_fail_111 : scH Tx invX cc_X7_fail_111 := scCheck_ok (X := xx_X7_fail_111) (nodes := []) (fuel := 4000) ⟨lqX7, fa_nil⟩ dtX7_fail (by decide +kernel)
abbrev cc_X7_fail_112 : scC := (qX7_fail, 0, [((-2147483648), 2147483647), ((-2147483648), 2147483647), (1, 3)], [.inr (.inr (.inl [1])), .inl (some 0, 0), .inl (some 1, 0)], [((1, 4), (some 2, 0))], [(1, (0, 0), [], [], [((1, 4), (1, 3))])], [])
set_option maxRecDepth 20000 in
abbrev xx_X7_fail_112 : scX := (Tx, invX, lnX7, [], cc_X7_fail_112)
set_option maxRecDepth 20000 in
theorem hh_X7_fail_112 : scH Tx invX cc_X7_fail_112 := scCheck_ok (X := xx_X7_fail_112) (nodes := []) (fuel := 4000) ⟨lqX7, fa_nil⟩ dtX7_fail (by decide +kernel)
abbrev cc_X7_fail_113 : scC := (qX7_fail, 0, [((-2147483648), 2147483647), ((-2147483648), 2147483647), (1, 3)], [.inr (.inr (.inl [1])), .inl (some 0, 0), .inl (some 1, 0)], [((1, 4), (some 2, 0))], [(1, (0, 0), [], [], [((1, 4), (1, 3))])], [])
set_option maxRecDepth 20000 in
abbrev xx_X7_fail_113 : scX := (Tx, invX, lnX7, [], cc_X7_fail_113)
set_option maxRecDepth 20000 in
theorem hh_X7_fail_113 : scH Tx invX cc_X7_fail_113 := scCheck_ok (X := xx_X7_fail_113) (nodes := []) (fuel := 4000) ⟨lqX7, fa_nil⟩ dtX7_fail (by decide +kernel)
abbrev cc_X7_fail_114 : scC := (qX7_fail, 0, [((-2147483648), 2147483647), ((-2147483648), 2147483647), (1, 3)], [.inr (.inr (.inl [1])), .inl (some 0, 0), .inl (some 1, 0)], [((1, 4), (some 2, 0))], [(1, (0, 0), [], [], [((1, 4), (1, 3))])], [])
set_option maxRecDepth 20000 in
abbrev xx_X7_fail_114 : scX := (Tx, invX, lnX7, [], cc_X7_fail_114)
set_option maxRecDepth 20000 in
theorem hh_X7_fail_114 : scH Tx invX cc_X7_fail_114 := scCheck_ok (X := xx_X7_fail_114) (nodes := []) (fuel := 4000) ⟨lqX7, fa_nil⟩ dtX7_fail (by decide +kernel)
abbrev cc_X7_takeNumber_9 : scC := (qX7_takeNumber, 2, [(1, 1), (60, 60), (1, 3)], [.inr (.inr (.inl [1])), .inl (some 0, 0), .inl (some 1, 0)], [((1, 4), (some 2, 0))], [(1, (1, 60), [], [], [((1, 4), (1, 3))]), (1, ((-1), (-1)), [], [], [((1, 4), (1, 3))])], [(1, 3, 1)])
set_option maxRecDepth 20000 in
abbrev xx_X7_takeNumber_9 : scX := (Tx, invX, lnX7, [(35, 0, 7, cc_X7_fail_91), (35, 0, 7, cc_X7_fail_93), (35, 0, 7, cc_X7_fail_95), (35, 0, 7, cc_X7_fail_97), (35, 0, 7, cc_X7_fail_100), (35, 0, 7, cc_X7_fail_103), (35, 0, 7, cc_X7_fail_106), (35, 0, 7, cc_X7_fail_109), (35, 0, 7, cc_X7_fail_112), (35, 0, 7, cc_X7_fail_92), (35, 0, 7, cc_X7_fail_94), (35, 0, 7, cc_X7_fail_96), (35, 0, 7, cc_X7_fail_98), (35, 0, 7, cc_X7_fail_99), (35, 0, 7, cc_X7_fail_101), (35, 0, 7, cc_X7_fail_102), (35, 0, 7, cc_X7_fail_104), (35, 0, 7, cc_X7_fail_105), (35, 0, 7, cc_X7_fail_107), (35, 0, 7, cc_X7_fail_108), (35, 0, 7, cc_X7_fail_110), (35, 0, 7, cc_X7_fail_111), (35, 0, 7, cc_X7_fail_113), (35, 0, 7, cc_X7_fail_114), (39, 0, 7, cc_X7_nextPlace_0)], cc_X7_takeNumber_9)
set_option maxRecDepth 20000 in
theorem hh_X7_takeNumber_9 : scH Tx invX cc_X7_takeNumber_9 := scCheck_ok (X := xx_X7_takeNumber_9) (nodes := [(8, ([(1, 1), (60, 60), (0, 600), ((-2147483648), 1000000), (1, 3), (0, 600), (0, 600)], [some (.inr (.inr (.inl [1]))), some (.inl (some 0, 0)), some (.inl (some 1, 0)), some (.inl (some 2, 0)), some (.inl (some 3, 0))], [], [((1, 4), (some 4, 0)), ((1, 3), (some 5, 0)), ((1, 2), (some 6, 0))]), ([0, 0, 0, 0, 0, (-2)], 1200))]) (fuel := 4000) ⟨lqX7, fa_cons (⟨⟨2, _, pcv_X7_35, rfl⟩, hh_X7_fail_91⟩) (fa_cons (⟨⟨2, _, pcv_X7_35, rfl⟩, hh_X7_fail_93⟩) (fa_cons (⟨⟨2, _, pcv_X7_35, rfl⟩, hh_X7_fail_95⟩) (fa_cons (⟨⟨2, _, pcv_X7_35, rfl⟩, hh_X7_fail_97⟩) (fa_cons (⟨⟨2, _, pcv_X7_35, rfl⟩, hh_X7_fail_100⟩) (fa_cons (⟨⟨2, _, pcv_X7_35, rfl⟩, hh_X7_fail_103⟩) (fa_cons (⟨⟨2, _, pcv_X7_35, rfl⟩, hh_X7_fail_106⟩) (fa_cons (⟨⟨2, _, pcv_X7_35, rfl⟩, hh_X7_fail_109⟩) (fa_cons (⟨⟨2, _, pcv_X7_35, rfl⟩, hh_X7_fail_112⟩) (fa_cons (⟨⟨2, _, pcv_X7_35, rfl⟩, hh_X7_fail_92⟩) (fa_cons (⟨⟨2, _, pcv_X7_35, rfl⟩, hh_X7_fail_94⟩) (fa_cons (⟨⟨2, _, pcv_X7_35, rfl⟩, hh_X7_fail_96⟩) (fa_cons (⟨⟨2, _, pcv_X7_35, rfl⟩, hh_X7_fail_98⟩) (fa_cons (⟨⟨2, _, pcv_X7_35, rfl⟩, hh_X7_fail_99⟩) (fa_cons (⟨⟨2, _, pcv_X7_35, rfl⟩, hh_X7_fail_101⟩) (fa_cons (⟨⟨2, _, pcv_X7_35, rfl⟩, hh_X7_fail_102⟩) (fa_cons (⟨⟨2, _, pcv_X7_35, rfl⟩, hh_X7_fail_104⟩) (fa_cons (⟨⟨2, _, pcv_X7_35, rfl⟩, hh_X7_fail_105⟩) (fa_cons (⟨⟨2, _, pcv_X7_35, rfl⟩, hh_X7_fail_107⟩) (fa_cons (⟨⟨2, _, pcv_X7_35, rfl⟩, hh_X7_fail_108⟩) (fa_cons (⟨⟨2, _, pcv_X7_35, rfl⟩, hh_X7_fail_110⟩) (fa_cons (⟨⟨2, _, pcv_X7_35, rfl⟩, hh_X7_fail_111⟩) (fa_cons (⟨⟨2, _, pcv_X7_35, rfl⟩, hh_X7_fail_113⟩) (fa_cons (⟨⟨2, _, pcv_X7_35, rfl⟩, hh_X7_fail_114⟩) (fa_cons (⟨⟨0, _, pcv_X7_39, rfl⟩, hh_X7_nextPlace_0⟩) (fa_nil)))))))))))))))))))))))))⟩ dtX7_takeNumber (by decide +kernel)
abbrev cc_X7_takeNumber_10 : scC := (qX7_takeNumber, 2, [(0, 0), (5, 5), (0, 3)], [.inr (.inr (.inl [1])), .inl (some 0, 0), .inl (some 1, 0)], [((1, 4), (some 2, 0))], [(1, (0, 5), [], [], [((1, 4), (0, 3))]), (1, ((-1), (-1)), [], [], [((1, 4), (1, 3))])], [(1, 3, 3)])
set_option maxRecDepth 20000 in
abbrev xx_X7_takeNumber_10 : scX := (Tx, invX, lnX7, [(35, 0, 7, cc_X7_fail_1), (35, 0, 7, cc_X7_fail_0), (35, 0, 7, cc_X7_fail_2), (39, 0, 7, cc_X7_nextPlace_0)], cc_X7_takeNumber_10)
set_option maxRecDepth 20000 in
theorem hh_X7_takeNumber_10 : scH Tx invX cc_X7_takeNumber_10 := scCheck_ok (X := xx_X7_takeNumber_10) (nodes := [(8, ([(0, 0), (5, 5), (0, 600), ((-2147483648), 1000000), (0, 3), (0, 600), (0, 600)], [some (.inr (.inr (.inl [1]))), some (.inl (some 0, 0)), some (.inl (some 1, 0)), some (.inl (some 2, 0)), some (.inl (some 3, 0))], [], [((1, 4), (some 4, 0)), ((1, 3), (some 5, 0)), ((1, 2), (some 6, 0))]), ([0, 0, 0, 0, 0, (-2)], 1200))]) (fuel := 4000) ⟨lqX7, fa_cons (⟨⟨2, _, pcv_X7_35, rfl⟩, hh_X7_fail_1⟩) (fa_cons (⟨⟨2, _, pcv_X7_35, rfl⟩, hh_X7_fail_0⟩) (fa_cons (⟨⟨2, _, pcv_X7_35, rfl⟩, hh_X7_fail_2⟩) (fa_cons (⟨⟨0, _, pcv_X7_39, rfl⟩, hh_X7_nextPlace_0⟩) (fa_nil))))⟩ dtX7_takeNumber (by decide +kernel)
abbrev cc_X7_takeNumber_11 : scC := (qX7_takeNumber, 2, [(1, 1), (60, 60), (0, 3)], [.inr (.inr (.inl [1])), .inl (some 0, 0), .inl (some 1, 0)], [((1, 4), (some 2, 0))], [(1, (1, 60), [], [], [((1, 4), (0, 3))]), (1, ((-1), (-1)), [], [], [((1, 4), (1, 3))])], [(1, 3, 3)])
set_option maxRecDepth 20000 in
abbrev xx_X7_takeNumber_11 : scX := (Tx, invX, lnX7, [(35, 0, 7, cc_X7_fail_1), (35, 0, 7, cc_X7_fail_0), (35, 0, 7, cc_X7_fail_2), (39, 0, 7, cc_X7_nextPlace_0)], cc_X7_takeNumber_11)
set_option maxRecDepth 20000 in
theorem hh_X7_takeNumber_11 : scH Tx invX cc_X7_takeNumber_11 := scCheck_ok (X := xx_X7_takeNumber_11) (nodes := [(8, ([(1, 1), (60, 60), (0, 600), ((-2147483648), 1000000), (0, 3), (0, 600), (0, 600)], [some (.inr (.inr (.inl [1]))), some (.inl (some 0, 0)), some (.inl (some 1, 0)), some (.inl (some 2, 0)), some (.inl (some 3, 0))], [], [((1, 4), (some 4, 0)), ((1, 3), (some 5, 0)), ((1, 2), (some 6, 0))]), ([0, 0, 0, 0, 0, (-2)], 1200))]) (fuel := 4000) ⟨lqX7, fa_cons (⟨⟨2, _, pcv_X7_35, rfl⟩, hh_X7_fail_1⟩) (fa_cons (⟨⟨2, _, pcv_X7_35, rfl⟩, hh_X7_fail_0⟩) (fa_cons (⟨⟨2, _, pcv_X7_35, rfl⟩, hh_X7_fail_2⟩) (fa_cons (⟨⟨0, _, pcv_X7_39, rfl⟩, hh_X7_nextPlace_0⟩) (fa_nil))))⟩ dtX7_takeNumber (by decide +kernel)
abbrev cc_X8_readFact_0 : scC := (qX8_readFact, 3, [], [.inr (.inr (.inl [13])), .inr (.inr (.inl [1]))], [], [(1, (0, 1), [], [], [])], [(1, 3, 3), (13, 10, 1), (20, 0, 24), (21, 0, 24), (22, 0, 24)])
set_option maxRecDepth 20000 in
abbrev xx_X8_readFact_0 : scX := (Tx, invX, lnX8, [(113, 0, 7, cc_X7_takeNumber_8), (113, 0, 7, cc_X7_takeNumber_9), (113, 0, 7, cc_X7_takeNumber_10), (113, 0, 7, cc_X7_takeNumber_11), (113, 0, 7, cc_X7_takeNumber_7), (117, 0, 7, cc_X7_failed_0), (117, 0, 7, cc_X7_failed_1)], cc_X8_readFact_0)
set_option maxRecDepth 20000 in
theorem hh_X8_readFact_0 : scH Tx invX cc_X8_readFact_0 := scCheck_ok (X := xx_X8_readFact_0) (nodes := []) (fuel := 4000) ⟨lqX8, fa_cons (⟨⟨2, _, pcv_X8_113, rfl⟩, hh_X7_takeNumber_8⟩) (fa_cons (⟨⟨2, _, pcv_X8_113, rfl⟩, hh_X7_takeNumber_9⟩) (fa_cons (⟨⟨2, _, pcv_X8_113, rfl⟩, hh_X7_takeNumber_10⟩) (fa_cons (⟨⟨2, _, pcv_X8_113, rfl⟩, hh_X7_takeNumber_11⟩) (fa_cons (⟨⟨2, _, pcv_X8_113, rfl⟩, hh_X7_takeNumber_7⟩) (fa_cons (⟨⟨0, _, pcv_X8_117, rfl⟩, hh_X7_failed_0⟩) (fa_cons (⟨⟨0, _, pcv_X8_117, rfl⟩, hh_X7_failed_1⟩) (fa_nil)))))))⟩ dtX8_readFact (by decide +kernel)
abbrev cc_X7_fail_115 : scC := (qX7_fail, 0, [((-2147483648), 2147483647), ((-2147483648), 2147483647), (1, 3)], [.inr (.inr (.inl [1])), .inl (some 0, 0), .inl (some 1, 0)], [((1, 4), (some 2, 0))], [(1, (0, 0), [], [], [((1, 4), (1, 3))])], [])
set_option maxRecDepth 20000 in
abbrev xx_X7_fail_115 : scX := (Tx, invX, lnX7, [], cc_X7_fail_115)
set_option maxRecDepth 20000 in
theorem hh_X7_fail_115 : scH Tx invX cc_X7_fail_115 := scCheck_ok (X := xx_X7_fail_115) (nodes := []) (fuel := 4000) ⟨lqX7, fa_nil⟩ dtX7_fail (by decide +kernel)
abbrev cc_X7_fail_116 : scC := (qX7_fail, 0, [((-2147483648), 2147483647), ((-2147483648), 2147483647), (1, 3)], [.inr (.inr (.inl [1])), .inl (some 0, 0), .inl (some 1, 0)], [((1, 4), (some 2, 0))], [(1, (0, 0), [], [], [((1, 4), (1, 3))])], [])
set_option maxRecDepth 20000 in
abbrev xx_X7_fail_116 : scX := (Tx, invX, lnX7, [], cc_X7_fail_116)
set_option maxRecDepth 20000 in
theorem hh_X7_fail_116 : scH Tx invX cc_X7_fail_116 := scCheck_ok (X := xx_X7_fail_116) (nodes := []) (fuel := 4000) ⟨lqX7, fa_nil⟩ dtX7_fail (by decide +kernel)
abbrev cc_X7_fail_117 : scC := (qX7_fail, 0, [((-2147483648), 2147483647), ((-2147483648), 2147483647), (1, 3)], [.inr (.inr (.inl [1])), .inl (some 0, 0), .inl (some 1, 0)], [((1, 4), (some 2, 0))], [(1, (0, 0), [], [], [((1, 4), (1, 3))])], [])
set_option maxRecDepth 20000 in
abbrev xx_X7_fail_117 : scX := (Tx, invX, lnX7, [], cc_X7_fail_117)
set_option maxRecDepth 20000 in
theorem hh_X7_fail_117 : scH Tx invX cc_X7_fail_117 := scCheck_ok (X := xx_X7_fail_117) (nodes := []) (fuel := 4000) ⟨lqX7, fa_nil⟩ dtX7_fail (by decide +kernel)
abbrev cc_X7_fail_118 : scC := (qX7_fail, 0, [((-2147483648), 2147483647), ((-2147483648), 2147483647), (1, 3)], [.inr (.inr (.inl [1])), .inl (some 0, 0), .inl (some 1, 0)], [((1, 4), (some 2, 0))], [(1, (0, 0), [], [], [((1, 4), (1, 3))])], [])
set_option maxRecDepth 20000 in
abbrev xx_X7_fail_118 : scX := (Tx, invX, lnX7, [], cc_X7_fail_118)
set_option maxRecDepth 20000 in
theorem hh_X7_fail_118 : scH Tx invX cc_X7_fail_118 := scCheck_ok (X := xx_X7_fail_118) (nodes := []) (fuel := 4000) ⟨lqX7, fa_nil⟩ dtX7_fail (by decide +kernel)
abbrev cc_X7_fail_119 : scC := (qX7_fail, 0, [((-2147483648), 2147483647), ((-2147483648), 2147483647), (1, 3)], [.inr (.inr (.inl [1])), .inl (some 0, 0), .inl (some 1, 0)], [((1, 4), (some 2, 0))], [(1, (0, 0), [], [], [((1, 4), (1, 3))])], [])
set_option maxRecDepth 20000 in
abbrev xx_X7_fail_119 : scX := (Tx, invX, lnX7, [], cc_X7_fail_119)
set_option maxRecDepth 20000 in
theorem hh_X7_fail_119 : scH Tx invX cc_X7_fail_119 := scCheck_ok (X := xx_X7_fail_119) (nodes := []) (fuel := 4000) ⟨lqX7, fa_nil⟩ dtX7_fail (by decide +kernel)
abbrev cc_X7_fail_120 : scC := (qX7_fail, 0, [((-2147483648), 2147483647), ((-2147483648), 2147483647), (1, 3)], [.inr (.inr (.inl [1])), .inl (some 0, 0), .inl (some 1, 0)], [((1, 4), (some 2, 0))], [(1, (0, 0), [], [], [((1, 4), (1, 3))])], [])
set_option maxRecDepth 20000 in
abbrev xx_X7_fail_120 : scX := (Tx, invX, lnX7, [], cc_X7_fail_120)
set_option maxRecDepth 20000 in
theorem hh_X7_fail_120 : scH Tx invX cc_X7_fail_120 := scCheck_ok (X := xx_X7_fail_120) (nodes := []) (fuel := 4000) ⟨lqX7, fa_nil⟩ dtX7_fail (by decide +kernel)
abbrev cc_X7_fail_121 : scC := (qX7_fail, 0, [((-2147483648), 2147483647), ((-2147483648), 2147483647), (1, 3)], [.inr (.inr (.inl [1])), .inl (some 0, 0), .inl (some 1, 0)], [((1, 4), (some 2, 0))], [(1, (0, 0), [], [], [((1, 4), (1, 3))])], [])
set_option maxRecDepth 20000 in
abbrev xx_X7_fail_121 : scX := (Tx, invX, lnX7, [], cc_X7_fail_121)
set_option maxRecDepth 20000 in
theorem hh_X7_fail_121 : scH Tx invX cc_X7_fail_121 := scCheck_ok (X := xx_X7_fail_121) (nodes := []) (fuel := 4000) ⟨lqX7, fa_nil⟩ dtX7_fail (by decide +kernel)
abbrev cc_X7_fail_122 : scC := (qX7_fail, 0, [((-2147483648), 2147483647), ((-2147483648), 2147483647), (1, 3)], [.inr (.inr (.inl [1])), .inl (some 0, 0), .inl (some 1, 0)], [((1, 4), (some 2, 0))], [(1, (0, 0), [], [], [((1, 4), (1, 3))])], [])
set_option maxRecDepth 20000 in
abbrev xx_X7_fail_122 : scX := (Tx, invX, lnX7, [], cc_X7_fail_122)
set_option maxRecDepth 20000 in
theorem hh_X7_fail_122 : scH Tx invX cc_X7_fail_122 := scCheck_ok (X := xx_X7_fail_122) (nodes := []) (fuel := 4000) ⟨lqX7, fa_nil⟩ dtX7_fail (by decide +kernel)
abbrev cc_X7_fail_123 : scC := (qX7_fail, 0, [((-2147483648), 2147483647), ((-2147483648), 2147483647), (1, 3)], [.inr (.inr (.inl [1])), .inl (some 0, 0), .inl (some 1, 0)], [((1, 4), (some 2, 0))], [(1, (0, 0), [], [], [((1, 4), (1, 3))])], [])
set_option maxRecDepth 20000 in
abbrev xx_X7_fail_123 : scX := (Tx, invX, lnX7, [], cc_X7_fail_123)
set_option maxRecDepth 20000 in
theorem hh_X7_fail_123 : scH Tx invX cc_X7_fail_123 := scCheck_ok (X := xx_X7_fail_123) (nodes := []) (fuel := 4000) ⟨lqX7, fa_nil⟩ dtX7_fail (by decide +kernel)
abbrev cc_X7_fail_124 : scC := (qX7_fail, 0, [((-2147483648), 2147483647), ((-2147483648), 2147483647), (1, 3)], [.inr (.inr (.inl [1])), .inl (some 0, 0), .inl (some 1, 0)], [((1, 4), (some 2, 0))], [(1, (0, 0), [], [], [((1, 4), (1, 3))])], [])
set_option maxRecDepth 20000 in
abbrev xx_X7_fail_124 : scX := (Tx, invX, lnX7, [], cc_X7_fail_124)
set_option maxRecDepth 20000 in
theorem hh_X7_fail_124 : scH Tx invX cc_X7_fail_124 := scCheck_ok (X := xx_X7_fail_124) (nodes := []) (fuel := 4000) ⟨lqX7, fa_nil⟩ dtX7_fail (by decide +kernel)
abbrev cc_X7_fail_125 : scC := (qX7_fail, 0, [((-2147483648), 2147483647), ((-2147483648), 2147483647), (1, 3)], [.inr (.inr (.inl [1])), .inl (some 0, 0), .inl (some 1, 0)], [((1, 4), (some 2, 0))], [(1, (0, 0), [], [], [((1, 4), (1, 3))])], [])
set_option maxRecDepth 20000 in
abbrev xx_X7_fail_125 : scX := (Tx, invX, lnX7, [], cc_X7_fail_125)
set_option maxRecDepth 20000 in
theorem hh_X7_fail_125 : scH Tx invX cc_X7_fail_125 := scCheck_ok (X := xx_X7_fail_125) (nodes := []) (fuel := 4000) ⟨lqX7, fa_nil⟩ dtX7_fail (by decide +kernel)
abbrev cc_X7_fail_126 : scC := (qX7_fail, 0, [((-2147483648), 2147483647), ((-2147483648), 2147483647), (1, 3)], [.inr (.inr (.inl [1])), .inl (some 0, 0), .inl (some 1, 0)], [((1, 4), (some 2, 0))], [(1, (0, 0), [], [], [((1, 4), (1, 3))])], [])
set_option maxRecDepth 20000 in
abbrev xx_X7_fail_126 : scX := (Tx, invX, lnX7, [], cc_X7_fail_126)
set_option maxRecDepth 20000 in
theorem hh_X7_fail_126 : scH Tx invX cc_X7_fail_126 := scCheck_ok (X := xx_X7_fail_126) (nodes := []) (fuel := 4000) ⟨lqX7, fa_nil⟩ dtX7_fail (by decide +kernel)
abbrev cc_X7_fail_127 : scC := (qX7_fail, 0, [((-2147483648), 2147483647), ((-2147483648), 2147483647), (1, 3)], [.inr (.inr (.inl [1])), .inl (some 0, 0), .inl (some 1, 0)], [((1, 4), (some 2, 0))], [(1, (0, 0), [], [], [((1, 4), (1, 3))])], [])
set_option maxRecDepth 20000 in
abbrev xx_X7_fail_127 : scX := (Tx, invX, lnX7, [], cc_X7_fail_127)
set_option maxRecDepth 20000 in
theorem hh_X7_fail_127 : scH Tx invX cc_X7_fail_127 := scCheck_ok (X := xx_X7_fail_127) (nodes := []) (fuel := 4000) ⟨lqX7, fa_nil⟩ dtX7_fail (by decide +kernel)
abbrev cc_X7_fail_128 : scC := (qX7_fail, 0, [((-2147483648), 2147483647), ((-2147483648), 2147483647), (1, 3)], [.inr (.inr (.inl [1])), .inl (some 0, 0), .inl (some 1, 0)], [((1, 4), (some 2, 0))], [(1, (0, 0), [], [], [((1, 4), (1, 3))])], [])
set_option maxRecDepth 20000 in
abbrev xx_X7_fail_128 : scX := (Tx, invX, lnX7, [], cc_X7_fail_128)
set_option maxRecDepth 20000 in
theorem hh_X7_fail_128 : scH Tx invX cc_X7_fail_128 := scCheck_ok (X := xx_X7_fail_128) (nodes := []) (fuel := 4000) ⟨lqX7, fa_nil⟩ dtX7_fail (by decide +kernel)
abbrev cc_X7_fail_129 : scC := (qX7_fail, 0, [((-2147483648), 2147483647), ((-2147483648), 2147483647), (1, 3)], [.inr (.inr (.inl [1])), .inl (some 0, 0), .inl (some 1, 0)], [((1, 4), (some 2, 0))], [(1, (0, 0), [], [], [((1, 4), (1, 3))])], [])
set_option maxRecDepth 20000 in
abbrev xx_X7_fail_129 : scX := (Tx, invX, lnX7, [], cc_X7_fail_129)
set_option maxRecDepth 20000 in
theorem hh_X7_fail_129 : scH Tx invX cc_X7_fail_129 := scCheck_ok (X := xx_X7_fail_129) (nodes := []) (fuel := 4000) ⟨lqX7, fa_nil⟩ dtX7_fail (by decide +kernel)
abbrev cc_X7_fail_130 : scC := (qX7_fail, 0, [((-2147483648), 2147483647), ((-2147483648), 2147483647), (1, 3)], [.inr (.inr (.inl [1])), .inl (some 0, 0), .inl (some 1, 0)], [((1, 4), (some 2, 0))], [(1, (0, 0), [], [], [((1, 4), (1, 3))])], [])
set_option maxRecDepth 20000 in
abbrev xx_X7_fail_130 : scX := (Tx, invX, lnX7, [], cc_X7_fail_130)
set_option maxRecDepth 20000 in
theorem hh_X7_fail_130 : scH Tx invX cc_X7_fail_130 := scCheck_ok (X := xx_X7_fail_130) (nodes := []) (fuel := 4000) ⟨lqX7, fa_nil⟩ dtX7_fail (by decide +kernel)
abbrev cc_X7_fail_131 : scC := (qX7_fail, 0, [((-2147483648), 2147483647), ((-2147483648), 2147483647), (1, 3)], [.inr (.inr (.inl [1])), .inl (some 0, 0), .inl (some 1, 0)], [((1, 4), (some 2, 0))], [(1, (0, 0), [], [], [((1, 4), (1, 3))])], [])
set_option maxRecDepth 20000 in
abbrev xx_X7_fail_131 : scX := (Tx, invX, lnX7, [], cc_X7_fail_131)
set_option maxRecDepth 20000 in
theorem hh_X7_fail_131 : scH Tx invX cc_X7_fail_131 := scCheck_ok (X := xx_X7_fail_131) (nodes := []) (fuel := 4000) ⟨lqX7, fa_nil⟩ dtX7_fail (by decide +kernel)
abbrev cc_X7_fail_132 : scC := (qX7_fail, 0, [((-2147483648), 2147483647), ((-2147483648), 2147483647), (1, 3)], [.inr (.inr (.inl [1])), .inl (some 0, 0), .inl (some 1, 0)], [((1, 4), (some 2, 0))], [(1, (0, 0), [], [], [((1, 4), (1, 3))])], [])
set_option maxRecDepth 20000 in
abbrev xx_X7_fail_132 : scX := (Tx, invX, lnX7, [], cc_X7_fail_132)
set_option maxRecDepth 20000 in
theorem hh_X7_fail_132 : scH Tx invX cc_X7_fail_132 := scCheck_ok (X := xx_X7_fail_132) (nodes := []) (fuel := 4000) ⟨lqX7, fa_nil⟩ dtX7_fail (by decide +kernel)
abbrev cc_X7_fail_133 : scC := (qX7_fail, 0, [((-2147483648), 2147483647), ((-2147483648), 2147483647), (1, 3)], [.inr (.inr (.inl [1])), .inl (some 0, 0), .inl (some 1, 0)], [((1, 4), (some 2, 0))], [(1, (0, 0), [], [], [((1, 4), (1, 3))])], [])
set_option maxRecDepth 20000 in
abbrev xx_X7_fail_133 : scX := (Tx, invX, lnX7, [], cc_X7_fail_133)
set_option maxRecDepth 20000 in
theorem hh_X7_fail_133 : scH Tx invX cc_X7_fail_133 := scCheck_ok (X := xx_X7_fail_133) (nodes := []) (fuel := 4000) ⟨lqX7, fa_nil⟩ dtX7_fail (by decide +kernel)
abbrev cc_X7_fail_134 : scC := (qX7_fail, 0, [((-2147483648), 2147483647), ((-2147483648), 2147483647), (1, 3)], [.inr (.inr (.inl [1])), .inl (some 0, 0), .inl (some 1, 0)], [((1, 4), (some 2, 0))], [(1, (0, 0), [], [], [((1, 4), (1, 3))])], [])
set_option maxRecDepth 20000 in
abbrev xx_X7_fail_134 : scX := (Tx, invX, lnX7, [], cc_X7_fail_134)
set_option maxRecDepth 20000 in
theorem hh_X7_fail_134 : scH Tx invX cc_X7_fail_134 := scCheck_ok (X := xx_X7_fail_134) (nodes := []) (fuel := 4000) ⟨lqX7, fa_nil⟩ dtX7_fail (by decide +kernel)
abbrev cc_X7_fail_135 : scC := (qX7_fail, 0, [((-2147483648), 2147483647), ((-2147483648), 2147483647), (1, 3)], [.inr (.inr (.inl [1])), .inl (some 0, 0), .inl (some 1, 0)], [((1, 4), (some 2, 0))], [(1, (0, 0), [], [], [((1, 4), (1, 3))])], [])
set_option maxRecDepth 20000 in
abbrev xx_X7_fail_135 : scX := (Tx, invX, lnX7, [], cc_X7_fail_135)
set_option maxRecDepth 20000 in
theorem hh_X7_fail_135 : scH Tx invX cc_X7_fail_135 := scCheck_ok (X := xx_X7_fail_135) (nodes := []) (fuel := 4000) ⟨lqX7, fa_nil⟩ dtX7_fail (by decide +kernel)
abbrev cc_X7_fail_136 : scC := (qX7_fail, 0, [((-2147483648), 2147483647), ((-2147483648), 2147483647), (1, 3)], [.inr (.inr (.inl [1])), .inl (some 0, 0), .inl (some 1, 0)], [((1, 4), (some 2, 0))], [(1, (0, 0), [], [], [((1, 4), (1, 3))])], [])
set_option maxRecDepth 20000 in
abbrev xx_X7_fail_136 : scX := (Tx, invX, lnX7, [], cc_X7_fail_136)
set_option maxRecDepth 20000 in
theorem hh_X7_fail_136 : scH Tx invX cc_X7_fail_136 := scCheck_ok (X := xx_X7_fail_136) (nodes := []) (fuel := 4000) ⟨lqX7, fa_nil⟩ dtX7_fail (by decide +kernel)
abbrev cc_X7_fail_137 : scC := (qX7_fail, 0, [((-2147483648), 2147483647), ((-2147483648), 2147483647), (1, 3)], [.inr (.inr (.inl [1])), .inl (some 0, 0), .inl (some 1, 0)], [((1, 4), (some 2, 0))], [(1, (0, 0), [], [], [((1, 4), (1, 3))])], [])
set_option maxRecDepth 20000 in
abbrev xx_X7_fail_137 : scX := (Tx, invX, lnX7, [], cc_X7_fail_137)
set_option maxRecDepth 20000 in
theorem hh_X7_fail_137 : scH Tx invX cc_X7_fail_137 := scCheck_ok (X := xx_X7_fail_137) (nodes := []) (fuel := 4000) ⟨lqX7, fa_nil⟩ dtX7_fail (by decide +kernel)
abbrev cc_X7_fail_138 : scC := (qX7_fail, 0, [((-2147483648), 2147483647), ((-2147483648), 2147483647), (1, 3)], [.inr (.inr (.inl [1])), .inl (some 0, 0), .inl (some 1, 0)], [((1, 4), (some 2, 0))], [(1, (0, 0), [], [], [((1, 4), (1, 3))])], [])
set_option maxRecDepth 20000 in
abbrev xx_X7_fail_138 : scX := (Tx, invX, lnX7, [], cc_X7_fail_138)
set_option maxRecDepth 20000 in
theorem hh_X7_fail_138 : scH Tx invX cc_X7_fail_138 := scCheck_ok (X := xx_X7_fail_138) (nodes := []) (fuel := 4000) ⟨lqX7, fa_nil⟩ dtX7_fail (by decide +kernel)
abbrev cc_X7_takeNumber_12 : scC := (qX7_takeNumber, 2, [(0, 0), ((-1), 7), (1, 3)], [.inr (.inr (.inl [1])), .inl (some 0, 0), .inl (some 1, 0)], [((1, 4), (some 2, 0))], [(1, (0, 7), [], [], [((1, 4), (1, 3))]), (1, ((-1), (-1)), [], [], [((1, 4), (1, 3))])], [(1, 3, 1)])
set_option maxRecDepth 20000 in
abbrev xx_X7_takeNumber_12 : scX := (Tx, invX, lnX7, [(35, 0, 7, cc_X7_fail_115), (35, 0, 7, cc_X7_fail_117), (35, 0, 7, cc_X7_fail_119), (35, 0, 7, cc_X7_fail_121), (35, 0, 7, cc_X7_fail_124), (35, 0, 7, cc_X7_fail_127), (35, 0, 7, cc_X7_fail_130), (35, 0, 7, cc_X7_fail_133), (35, 0, 7, cc_X7_fail_136), (35, 0, 7, cc_X7_fail_116), (35, 0, 7, cc_X7_fail_118), (35, 0, 7, cc_X7_fail_120), (35, 0, 7, cc_X7_fail_122), (35, 0, 7, cc_X7_fail_123), (35, 0, 7, cc_X7_fail_125), (35, 0, 7, cc_X7_fail_126), (35, 0, 7, cc_X7_fail_128), (35, 0, 7, cc_X7_fail_129), (35, 0, 7, cc_X7_fail_131), (35, 0, 7, cc_X7_fail_132), (35, 0, 7, cc_X7_fail_134), (35, 0, 7, cc_X7_fail_135), (35, 0, 7, cc_X7_fail_137), (35, 0, 7, cc_X7_fail_138), (39, 0, 7, cc_X7_nextPlace_0)], cc_X7_takeNumber_12)
set_option maxRecDepth 20000 in
theorem hh_X7_takeNumber_12 : scH Tx invX cc_X7_takeNumber_12 := scCheck_ok (X := xx_X7_takeNumber_12) (nodes := [(8, ([(0, 0), ((-1), 7), (0, 600), ((-2147483648), 1000000), (1, 3), (0, 600), (0, 600)], [some (.inr (.inr (.inl [1]))), some (.inl (some 0, 0)), some (.inl (some 1, 0)), some (.inl (some 2, 0)), some (.inl (some 3, 0))], [], [((1, 4), (some 4, 0)), ((1, 3), (some 5, 0)), ((1, 2), (some 6, 0))]), ([0, 0, 0, 0, 0, (-2)], 1200))]) (fuel := 4000) ⟨lqX7, fa_cons (⟨⟨2, _, pcv_X7_35, rfl⟩, hh_X7_fail_115⟩) (fa_cons (⟨⟨2, _, pcv_X7_35, rfl⟩, hh_X7_fail_117⟩) (fa_cons (⟨⟨2, _, pcv_X7_35, rfl⟩, hh_X7_fail_119⟩) (fa_cons (⟨⟨2, _, pcv_X7_35, rfl⟩, hh_X7_fail_121⟩) (fa_cons (⟨⟨2, _, pcv_X7_35, rfl⟩, hh_X7_fail_124⟩) (fa_cons (⟨⟨2, _, pcv_X7_35, rfl⟩, hh_X7_fail_127⟩) (fa_cons (⟨⟨2, _, pcv_X7_35, rfl⟩, hh_X7_fail_130⟩) (fa_cons (⟨⟨2, _, pcv_X7_35, rfl⟩, hh_X7_fail_133⟩) (fa_cons (⟨⟨2, _, pcv_X7_35, rfl⟩, hh_X7_fail_136⟩) (fa_cons (⟨⟨2, _, pcv_X7_35, rfl⟩, hh_X7_fail_116⟩) (fa_cons (⟨⟨2, _, pcv_X7_35, rfl⟩, hh_X7_fail_118⟩) (fa_cons (⟨⟨2, _, pcv_X7_35, rfl⟩, hh_X7_fail_120⟩) (fa_cons (⟨⟨2, _, pcv_X7_35, rfl⟩, hh_X7_fail_122⟩) (fa_cons (⟨⟨2, _, pcv_X7_35, rfl⟩, hh_X7_fail_123⟩) (fa_cons (⟨⟨2, _, pcv_X7_35, rfl⟩, hh_X7_fail_125⟩) (fa_cons (⟨⟨2, _, pcv_X7_35, rfl⟩, hh_X7_fail_126⟩) (fa_cons (⟨⟨2, _, pcv_X7_35, rfl⟩, hh_X7_fail_128⟩) (fa_cons (⟨⟨2, _, pcv_X7_35, rfl⟩, hh_X7_fail_129⟩) (fa_cons (⟨⟨2, _, pcv_X7_35, rfl⟩, hh_X7_fail_131⟩) (fa_cons (⟨⟨2, _, pcv_X7_35, rfl⟩, hh_X7_fail_132⟩) (fa_cons (⟨⟨2, _, pcv_X7_35, rfl⟩, hh_X7_fail_134⟩) (fa_cons (⟨⟨2, _, pcv_X7_35, rfl⟩, hh_X7_fail_135⟩) (fa_cons (⟨⟨2, _, pcv_X7_35, rfl⟩, hh_X7_fail_137⟩) (fa_cons (⟨⟨2, _, pcv_X7_35, rfl⟩, hh_X7_fail_138⟩) (fa_cons (⟨⟨0, _, pcv_X7_39, rfl⟩, hh_X7_nextPlace_0⟩) (fa_nil)))))))))))))))))))))))))⟩ dtX7_takeNumber (by decide +kernel)
abbrev cc_X7_fail_139 : scC := (qX7_fail, 0, [((-2147483648), 2147483647), ((-2147483648), 2147483647), (1, 3)], [.inr (.inr (.inl [1])), .inl (some 0, 0), .inl (some 1, 0)], [((1, 4), (some 2, 0))], [(1, (0, 0), [], [], [((1, 4), (1, 3))])], [])
set_option maxRecDepth 20000 in
abbrev xx_X7_fail_139 : scX := (Tx, invX, lnX7, [], cc_X7_fail_139)
set_option maxRecDepth 20000 in
theorem hh_X7_fail_139 : scH Tx invX cc_X7_fail_139 := scCheck_ok (X := xx_X7_fail_139) (nodes := []) (fuel := 4000) ⟨lqX7, fa_nil⟩ dtX7_fail (by decide +kernel)
abbrev cc_X8_readBy_0 : scC := (qX8_readBy, 3, [], [.inr (.inr (.inl [13])), .inr (.inr (.inl [1]))], [], [(1, (0, 1), [], [], [])], [(1, 3, 3), (19, 0, 8)])
set_option maxRecDepth 20000 in
abbrev xx_X8_readBy_0 : scX := (Tx, invX, lnX8, [(84, 0, 7, cc_X7_fail_2), (84, 0, 7, cc_X7_fail_139), (88, 0, 7, cc_X7_nextPlace_0), (113, 0, 7, cc_X7_takeNumber_12), (113, 0, 7, cc_X7_takeNumber_7), (117, 0, 7, cc_X7_failed_0), (117, 0, 7, cc_X7_failed_1)], cc_X8_readBy_0)
set_option maxRecDepth 20000 in
theorem hh_X8_readBy_0 : scH Tx invX cc_X8_readBy_0 := scCheck_ok (X := xx_X8_readBy_0) (nodes := []) (fuel := 4000) ⟨lqX8, fa_cons (⟨⟨2, _, pcv_X8_84, rfl⟩, hh_X7_fail_2⟩) (fa_cons (⟨⟨2, _, pcv_X8_84, rfl⟩, hh_X7_fail_139⟩) (fa_cons (⟨⟨0, _, pcv_X8_88, rfl⟩, hh_X7_nextPlace_0⟩) (fa_cons (⟨⟨2, _, pcv_X8_113, rfl⟩, hh_X7_takeNumber_12⟩) (fa_cons (⟨⟨2, _, pcv_X8_113, rfl⟩, hh_X7_takeNumber_7⟩) (fa_cons (⟨⟨0, _, pcv_X8_117, rfl⟩, hh_X7_failed_0⟩) (fa_cons (⟨⟨0, _, pcv_X8_117, rfl⟩, hh_X7_failed_1⟩) (fa_nil)))))))⟩ dtX8_readBy (by decide +kernel)
abbrev cc_X7_fail_140 : scC := (qX7_fail, 0, [((-2147483648), 2147483647), ((-2147483648), 2147483647), (1, 3)], [.inr (.inr (.inl [1])), .inl (some 0, 0), .inl (some 1, 0)], [((1, 4), (some 2, 0))], [(1, (0, 0), [], [], [((1, 4), (1, 3))])], [])
set_option maxRecDepth 20000 in
abbrev xx_X7_fail_140 : scX := (Tx, invX, lnX7, [], cc_X7_fail_140)
set_option maxRecDepth 20000 in
theorem hh_X7_fail_140 : scH Tx invX cc_X7_fail_140 := scCheck_ok (X := xx_X7_fail_140) (nodes := []) (fuel := 4000) ⟨lqX7, fa_nil⟩ dtX7_fail (by decide +kernel)
abbrev cc_X7_fail_141 : scC := (qX7_fail, 0, [((-2147483648), 2147483647), ((-2147483648), 2147483647), (1, 3)], [.inr (.inr (.inl [1])), .inl (some 0, 0), .inl (some 1, 0)], [((1, 4), (some 2, 0))], [(1, (0, 0), [], [], [((1, 4), (1, 3))])], [])
set_option maxRecDepth 20000 in
abbrev xx_X7_fail_141 : scX := (Tx, invX, lnX7, [], cc_X7_fail_141)
set_option maxRecDepth 20000 in
theorem hh_X7_fail_141 : scH Tx invX cc_X7_fail_141 := scCheck_ok (X := xx_X7_fail_141) (nodes := []) (fuel := 4000) ⟨lqX7, fa_nil⟩ dtX7_fail (by decide +kernel)
abbrev cc_X7_fail_142 : scC := (qX7_fail, 0, [((-2147483648), 2147483647), ((-2147483648), 2147483647), (1, 3)], [.inr (.inr (.inl [1])), .inl (some 0, 0), .inl (some 1, 0)], [((1, 4), (some 2, 0))], [(1, (0, 0), [], [], [((1, 4), (1, 3))])], [])
set_option maxRecDepth 20000 in
abbrev xx_X7_fail_142 : scX := (Tx, invX, lnX7, [], cc_X7_fail_142)
set_option maxRecDepth 20000 in
theorem hh_X7_fail_142 : scH Tx invX cc_X7_fail_142 := scCheck_ok (X := xx_X7_fail_142) (nodes := []) (fuel := 4000) ⟨lqX7, fa_nil⟩ dtX7_fail (by decide +kernel)
abbrev cc_X7_fail_143 : scC := (qX7_fail, 0, [((-2147483648), 2147483647), ((-2147483648), 2147483647), (1, 3)], [.inr (.inr (.inl [1])), .inl (some 0, 0), .inl (some 1, 0)], [((1, 4), (some 2, 0))], [(1, (0, 0), [], [], [((1, 4), (1, 3))])], [])
set_option maxRecDepth 20000 in
abbrev xx_X7_fail_143 : scX := (Tx, invX, lnX7, [], cc_X7_fail_143)
set_option maxRecDepth 20000 in
theorem hh_X7_fail_143 : scH Tx invX cc_X7_fail_143 := scCheck_ok (X := xx_X7_fail_143) (nodes := []) (fuel := 4000) ⟨lqX7, fa_nil⟩ dtX7_fail (by decide +kernel)
abbrev cc_X7_fail_144 : scC := (qX7_fail, 0, [((-2147483648), 2147483647), ((-2147483648), 2147483647), (1, 3)], [.inr (.inr (.inl [1])), .inl (some 0, 0), .inl (some 1, 0)], [((1, 4), (some 2, 0))], [(1, (0, 0), [], [], [((1, 4), (1, 3))])], [])
set_option maxRecDepth 20000 in
abbrev xx_X7_fail_144 : scX := (Tx, invX, lnX7, [], cc_X7_fail_144)
set_option maxRecDepth 20000 in
theorem hh_X7_fail_144 : scH Tx invX cc_X7_fail_144 := scCheck_ok (X := xx_X7_fail_144) (nodes := []) (fuel := 4000) ⟨lqX7, fa_nil⟩ dtX7_fail (by decide +kernel)
abbrev cc_X7_fail_145 : scC := (qX7_fail, 0, [((-2147483648), 2147483647), ((-2147483648), 2147483647), (1, 3)], [.inr (.inr (.inl [1])), .inl (some 0, 0), .inl (some 1, 0)], [((1, 4), (some 2, 0))], [(1, (0, 0), [], [], [((1, 4), (1, 3))])], [])
set_option maxRecDepth 20000 in
abbrev xx_X7_fail_145 : scX := (Tx, invX, lnX7, [], cc_X7_fail_145)
set_option maxRecDepth 20000 in
theorem hh_X7_fail_145 : scH Tx invX cc_X7_fail_145 := scCheck_ok (X := xx_X7_fail_145) (nodes := []) (fuel := 4000) ⟨lqX7, fa_nil⟩ dtX7_fail (by decide +kernel)
abbrev cc_X7_fail_146 : scC := (qX7_fail, 0, [((-2147483648), 2147483647), ((-2147483648), 2147483647), (1, 3)], [.inr (.inr (.inl [1])), .inl (some 0, 0), .inl (some 1, 0)], [((1, 4), (some 2, 0))], [(1, (0, 0), [], [], [((1, 4), (1, 3))])], [])
set_option maxRecDepth 20000 in
abbrev xx_X7_fail_146 : scX := (Tx, invX, lnX7, [], cc_X7_fail_146)
set_option maxRecDepth 20000 in
theorem hh_X7_fail_146 : scH Tx invX cc_X7_fail_146 := scCheck_ok (X := xx_X7_fail_146) (nodes := []) (fuel := 4000) ⟨lqX7, fa_nil⟩ dtX7_fail (by decide +kernel)
abbrev cc_X7_fail_147 : scC := (qX7_fail, 0, [((-2147483648), 2147483647), ((-2147483648), 2147483647), (1, 3)], [.inr (.inr (.inl [1])), .inl (some 0, 0), .inl (some 1, 0)], [((1, 4), (some 2, 0))], [(1, (0, 0), [], [], [((1, 4), (1, 3))])], [])
set_option maxRecDepth 20000 in
abbrev xx_X7_fail_147 : scX := (Tx, invX, lnX7, [], cc_X7_fail_147)
set_option maxRecDepth 20000 in
theorem hh_X7_fail_147 : scH Tx invX cc_X7_fail_147 := scCheck_ok (X := xx_X7_fail_147) (nodes := []) (fuel := 4000) ⟨lqX7, fa_nil⟩ dtX7_fail (by decide +kernel)
abbrev cc_X7_fail_148 : scC := (qX7_fail, 0, [((-2147483648), 2147483647), ((-2147483648), 2147483647), (1, 3)], [.inr (.inr (.inl [1])), .inl (some 0, 0), .inl (some 1, 0)], [((1, 4), (some 2, 0))], [(1, (0, 0), [], [], [((1, 4), (1, 3))])], [])
set_option maxRecDepth 20000 in
abbrev xx_X7_fail_148 : scX := (Tx, invX, lnX7, [], cc_X7_fail_148)
set_option maxRecDepth 20000 in
theorem hh_X7_fail_148 : scH Tx invX cc_X7_fail_148 := scCheck_ok (X := xx_X7_fail_148) (nodes := []) (fuel := 4000) ⟨lqX7, fa_nil⟩ dtX7_fail (by decide +kernel)
abbrev cc_X7_fail_149 : scC := (qX7_fail, 0, [((-2147483648), 2147483647), ((-2147483648), 2147483647), (1, 3)], [.inr (.inr (.inl [1])), .inl (some 0, 0), .inl (some 1, 0)], [((1, 4), (some 2, 0))], [(1, (0, 0), [], [], [((1, 4), (1, 3))])], [])
set_option maxRecDepth 20000 in
abbrev xx_X7_fail_149 : scX := (Tx, invX, lnX7, [], cc_X7_fail_149)
set_option maxRecDepth 20000 in
theorem hh_X7_fail_149 : scH Tx invX cc_X7_fail_149 := scCheck_ok (X := xx_X7_fail_149) (nodes := []) (fuel := 4000) ⟨lqX7, fa_nil⟩ dtX7_fail (by decide +kernel)
abbrev cc_X7_fail_150 : scC := (qX7_fail, 0, [((-2147483648), 2147483647), ((-2147483648), 2147483647), (1, 3)], [.inr (.inr (.inl [1])), .inl (some 0, 0), .inl (some 1, 0)], [((1, 4), (some 2, 0))], [(1, (0, 0), [], [], [((1, 4), (1, 3))])], [])
set_option maxRecDepth 20000 in
abbrev xx_X7_fail_150 : scX := (Tx, invX, lnX7, [], cc_X7_fail_150)
set_option maxRecDepth 20000 in
theorem hh_X7_fail_150 : scH Tx invX cc_X7_fail_150 := scCheck_ok (X := xx_X7_fail_150) (nodes := []) (fuel := 4000) ⟨lqX7, fa_nil⟩ dtX7_fail (by decide +kernel)
