abbrev cc_X7_fail_46 : scC := (qX7_fail, 0, [((-2147483648), 2147483647), ((-2147483648), 2147483647), (1, 3)], [.inr (.inr (.inl [1])), .inl (some 0, 0), .inl (some 1, 0)], [((1, 4), (some 2, 0))], [(1, (0, 0), [], [], [((1, 4), (1, 3))])], [])
set_option maxRecDepth 20000 in
abbrev xx_X7_fail_46 : scX := (Tx, invX, lnX7, [], cc_X7_fail_46)
set_option maxRecDepth 20000 in
theorem hh_X7_fail_46 : scH Tx invX cc_X7_fail_46 := scCheck_ok (X := xx_X7_fail_46) (nodes := []) (fuel := 4000) ⟨lqX7, fa_nil⟩ dtX7_fail (by decide +kernel)
abbrev cc_X7_fail_47 : scC := (qX7_fail, 0, [((-2147483648), 2147483647), ((-2147483648), 2147483647), (1, 3)], [.inr (.inr (.inl [1])), .inl (some 0, 0), .inl (some 1, 0)], [((1, 4), (some 2, 0))], [(1, (0, 0), [], [], [((1, 4), (1, 3))])], [])
set_option maxRecDepth 20000 in
abbrev xx_X7_fail_47 : scX := (Tx, invX, lnX7, [], cc_X7_fail_47)
set_option maxRecDepth 20000 in
theorem hh_X7_fail_47 : scH Tx invX cc_X7_fail_47 := scCheck_ok (X := xx_X7_fail_47) (nodes := []) (fuel := 4000) ⟨lqX7, fa_nil⟩ dtX7_fail (by decide +kernel)
abbrev cc_X7_fail_48 : scC := (qX7_fail, 0, [((-2147483648), 2147483647), ((-2147483648), 2147483647), (1, 3)], [.inr (.inr (.inl [1])), .inl (some 0, 0), .inl (some 1, 0)], [((1, 4), (some 2, 0))], [(1, (0, 0), [], [], [((1, 4), (1, 3))])], [])
set_option maxRecDepth 20000 in
abbrev xx_X7_fail_48 : scX := (Tx, invX, lnX7, [], cc_X7_fail_48)
set_option maxRecDepth 20000 in
theorem hh_X7_fail_48 : scH Tx invX cc_X7_fail_48 := scCheck_ok (X := xx_X7_fail_48) (nodes := []) (fuel := 4000) ⟨lqX7, fa_nil⟩ dtX7_fail (by decide +kernel)
abbrev cc_X7_fail_49 : scC := (qX7_fail, 0, [((-2147483648), 2147483647), ((-2147483648), 2147483647), (1, 3)], [.inr (.inr (.inl [1])), .inl (some 0, 0), .inl (some 1, 0)], [((1, 4), (some 2, 0))], [(1, (0, 0), [], [], [((1, 4), (1, 3))])], [])
set_option maxRecDepth 20000 in
abbrev xx_X7_fail_49 : scX := (Tx, invX, lnX7, [], cc_X7_fail_49)
set_option maxRecDepth 20000 in
theorem hh_X7_fail_49 : scH Tx invX cc_X7_fail_49 := scCheck_ok (X := xx_X7_fail_49) (nodes := []) (fuel := 4000) ⟨lqX7, fa_nil⟩ dtX7_fail (by decide +kernel)
abbrev cc_X7_fail_50 : scC := (qX7_fail, 0, [((-2147483648), 2147483647), ((-2147483648), 2147483647), (1, 3)], [.inr (.inr (.inl [1])), .inl (some 0, 0), .inl (some 1, 0)], [((1, 4), (some 2, 0))], [(1, (0, 0), [], [], [((1, 4), (1, 3))])], [])
set_option maxRecDepth 20000 in
abbrev xx_X7_fail_50 : scX := (Tx, invX, lnX7, [], cc_X7_fail_50)
set_option maxRecDepth 20000 in
theorem hh_X7_fail_50 : scH Tx invX cc_X7_fail_50 := scCheck_ok (X := xx_X7_fail_50) (nodes := []) (fuel := 4000) ⟨lqX7, fa_nil⟩ dtX7_fail (by decide +kernel)
abbrev cc_X7_fail_51 : scC := (qX7_fail, 0, [((-2147483648), 2147483647), ((-2147483648), 2147483647), (1, 3)], [.inr (.inr (.inl [1])), .inl (some 0, 0), .inl (some 1, 0)], [((1, 4), (some 2, 0))], [(1, (0, 0), [], [], [((1, 4), (1, 3))])], [])
set_option maxRecDepth 20000 in
abbrev xx_X7_fail_51 : scX := (Tx, invX, lnX7, [], cc_X7_fail_51)
set_option maxRecDepth 20000 in
theorem hh_X7_fail_51 : scH Tx invX cc_X7_fail_51 := scCheck_ok (X := xx_X7_fail_51) (nodes := []) (fuel := 4000) ⟨lqX7, fa_nil⟩ dtX7_fail (by decide +kernel)
abbrev cc_X7_fail_52 : scC := (qX7_fail, 0, [((-2147483648), 2147483647), ((-2147483648), 2147483647), (1, 3)], [.inr (.inr (.inl [1])), .inl (some 0, 0), .inl (some 1, 0)], [((1, 4), (some 2, 0))], [(1, (0, 0), [], [], [((1, 4), (1, 3))])], [])
set_option maxRecDepth 20000 in
abbrev xx_X7_fail_52 : scX := (Tx, invX, lnX7, [], cc_X7_fail_52)
set_option maxRecDepth 20000 in
theorem hh_X7_fail_52 : scH Tx invX cc_X7_fail_52 := scCheck_ok (X := xx_X7_fail_52) (nodes := []) (fuel := 4000) ⟨lqX7, fa_nil⟩ dtX7_fail (by decide +kernel)
abbrev cc_X7_fail_53 : scC := (qX7_fail, 0, [((-2147483648), 2147483647), ((-2147483648), 2147483647), (1, 3)], [.inr (.inr (.inl [1])), .inl (some 0, 0), .inl (some 1, 0)], [((1, 4), (some 2, 0))], [(1, (0, 0), [], [], [((1, 4), (1, 3))])], [])
set_option maxRecDepth 20000 in
abbrev xx_X7_fail_53 : scX := (Tx, invX, lnX7, [], cc_X7_fail_53)
set_option maxRecDepth 20000 in
theorem hh_X7_fail_53 : scH Tx invX cc_X7_fail_53 := scCheck_ok (X := xx_X7_fail_53) (nodes := []) (fuel := 4000) ⟨lqX7, fa_nil⟩ dtX7_fail (by decide +kernel)
abbrev cc_X7_fail_54 : scC := (qX7_fail, 0, [((-2147483648), 2147483647), ((-2147483648), 2147483647), (1, 3)], [.inr (.inr (.inl [1])), .inl (some 0, 0), .inl (some 1, 0)], [((1, 4), (some 2, 0))], [(1, (0, 0), [], [], [((1, 4), (1, 3))])], [])
set_option maxRecDepth 20000 in
abbrev xx_X7_fail_54 : scX := (Tx, invX, lnX7, [], cc_X7_fail_54)
set_option maxRecDepth 20000 in
theorem hh_X7_fail_54 : scH Tx invX cc_X7_fail_54 := scCheck_ok (X := xx_X7_fail_54) (nodes := []) (fuel := 4000) ⟨lqX7, fa_nil⟩ dtX7_fail (by decide +kernel)
abbrev cc_X7_fail_55 : scC := (qX7_fail, 0, [((-2147483648), 2147483647), ((-2147483648), 2147483647), (1, 3)], [.inr (.inr (.inl [1])), .inl (some 0, 0), .inl (some 1, 0)], [((1, 4), (some 2, 0))], [(1, (0, 0), [], [], [((1, 4), (1, 3))])], [])
set_option maxRecDepth 20000 in
abbrev xx_X7_fail_55 : scX := (Tx, invX, lnX7, [], cc_X7_fail_55)
set_option maxRecDepth 20000 in
theorem hh_X7_fail_55 : scH Tx invX cc_X7_fail_55 := scCheck_ok (X := xx_X7_fail_55) (nodes := []) (fuel := 4000) ⟨lqX7, fa_nil⟩ dtX7_fail (by decide +kernel)
abbrev cc_X7_fail_56 : scC := (qX7_fail, 0, [((-2147483648), 2147483647), ((-2147483648), 2147483647), (1, 3)], [.inr (.inr (.inl [1])), .inl (some 0, 0), .inl (some 1, 0)], [((1, 4), (some 2, 0))], [(1, (0, 0), [], [], [((1, 4), (1, 3))])], [])
set_option maxRecDepth 20000 in
abbrev xx_X7_fail_56 : scX := (Tx, invX, lnX7, [], cc_X7_fail_56)
set_option maxRecDepth 20000 in
theorem hh_X7_fail_56 : scH Tx invX cc_X7_fail_56 := scCheck_ok (X := xx_X7_fail_56) (nodes := []) (fuel := 4000) ⟨lqX7, fa_nil⟩ dtX7_fail (by decide +kernel)
abbrev cc_X7_fail_57 : scC := (qX7_fail, 0, [((-2147483648), 2147483647), ((-2147483648), 2147483647), (1, 3)], [.inr (.inr (.inl [1])), .inl (some 0, 0), .inl (some 1, 0)], [((1, 4), (some 2, 0))], [(1, (0, 0), [], [], [((1, 4), (1, 3))])], [])
set_option maxRecDepth 20000 in
abbrev xx_X7_fail_57 : scX := (Tx, invX, lnX7, [], cc_X7_fail_57)
set_option maxRecDepth 20000 in
theorem hh_X7_fail_57 : scH Tx invX cc_X7_fail_57 := scCheck_ok (X := xx_X7_fail_57) (nodes := []) (fuel := 4000) ⟨lqX7, fa_nil⟩ dtX7_fail (by decide +kernel)
abbrev cc_X7_fail_58 : scC := (qX7_fail, 0, [((-2147483648), 2147483647), ((-2147483648), 2147483647), (1, 3)], [.inr (.inr (.inl [1])), .inl (some 0, 0), .inl (some 1, 0)], [((1, 4), (some 2, 0))], [(1, (0, 0), [], [], [((1, 4), (1, 3))])], [])
set_option maxRecDepth 20000 in
abbrev xx_X7_fail_58 : scX := (Tx, invX, lnX7, [], cc_X7_fail_58)
set_option maxRecDepth 20000 in
theorem hh_X7_fail_58 : scH Tx invX cc_X7_fail_58 := scCheck_ok (X := xx_X7_fail_58) (nodes := []) (fuel := 4000) ⟨lqX7, fa_nil⟩ dtX7_fail (by decide +kernel)
abbrev cc_X7_fail_59 : scC := (qX7_fail, 0, [((-2147483648), 2147483647), ((-2147483648), 2147483647), (1, 3)], [.inr (.inr (.inl [1])), .inl (some 0, 0), .inl (some 1, 0)], [((1, 4), (some 2, 0))], [(1, (0, 0), [], [], [((1, 4), (1, 3))])], [])
set_option maxRecDepth 20000 in
abbrev xx_X7_fail_59 : scX := (Tx, invX, lnX7, [], cc_X7_fail_59)
set_option maxRecDepth 20000 in
theorem hh_X7_fail_59 : scH Tx invX cc_X7_fail_59 := scCheck_ok (X := xx_X7_fail_59) (nodes := []) (fuel := 4000) ⟨lqX7, fa_nil⟩ dtX7_fail (by decide +kernel)
abbrev cc_X7_fail_60 : scC := (qX7_fail, 0, [((-2147483648), 2147483647), ((-2147483648), 2147483647), (1, 3)], [.inr (.inr (.inl [1])), .inl (some 0, 0), .inl (some 1, 0)], [((1, 4), (some 2, 0))], [(1, (0, 0), [], [], [((1, 4), (1, 3))])], [])
set_option maxRecDepth 20000 in
abbrev xx_X7_fail_60 : scX := (Tx, invX, lnX7, [], cc_X7_fail_60)
set_option maxRecDepth 20000 in
theorem hh_X7_fail_60 : scH Tx invX cc_X7_fail_60 := scCheck_ok (X := xx_X7_fail_60) (nodes := []) (fuel := 4000) ⟨lqX7, fa_nil⟩ dtX7_fail (by decide +kernel)
abbrev cc_X7_fail_61 : scC := (qX7_fail, 0, [((-2147483648), 2147483647), ((-2147483648), 2147483647), (1, 3)], [.inr (.inr (.inl [1])), .inl (some 0, 0), .inl (some 1, 0)], [((1, 4), (some 2, 0))], [(1, (0, 0), [], [], [((1, 4), (1, 3))])], [])
set_option maxRecDepth 20000 in
abbrev xx_X7_fail_61 : scX := (Tx, invX, lnX7, [], cc_X7_fail_61)
set_option maxRecDepth 20000 in
theorem hh_X7_fail_61 : scH Tx invX cc_X7_fail_61 := scCheck_ok (X := xx_X7_fail_61) (nodes := []) (fuel := 4000) ⟨lqX7, fa_nil⟩ dtX7_fail (by decide +kernel)
abbrev cc_X7_fail_62 : scC := (qX7_fail, 0, [((-2147483648), 2147483647), ((-2147483648), 2147483647), (1, 3)], [.inr (.inr (.inl [1])), .inl (some 0, 0), .inl (some 1, 0)], [((1, 4), (some 2, 0))], [(1, (0, 0), [], [], [((1, 4), (1, 3))])], [])
set_option maxRecDepth 20000 in
abbrev xx_X7_fail_62 : scX := (Tx, invX, lnX7, [], cc_X7_fail_62)
set_option maxRecDepth 20000 in
theorem hh_X7_fail_62 : scH Tx invX cc_X7_fail_62 := scCheck_ok (X := xx_X7_fail_62) (nodes := []) (fuel := 4000) ⟨lqX7, fa_nil⟩ dtX7_fail (by decide +kernel)
abbrev cc_X7_fail_63 : scC := (qX7_fail, 0, [((-2147483648), 2147483647), ((-2147483648), 2147483647), (1, 3)], [.inr (.inr (.inl [1])), .inl (some 0, 0), .inl (some 1, 0)], [((1, 4), (some 2, 0))], [(1, (0, 0), [], [], [((1, 4), (1, 3))])], [])
set_option maxRecDepth 20000 in
abbrev xx_X7_fail_63 : scX := (Tx, invX, lnX7, [], cc_X7_fail_63)
set_option maxRecDepth 20000 in
theorem hh_X7_fail_63 : scH Tx invX cc_X7_fail_63 := scCheck_ok (X := xx_X7_fail_63) (nodes := []) (fuel := 4000) ⟨lqX7, fa_nil⟩ dtX7_fail (by decide +kernel)
abbrev cc_X7_fail_64 : scC := (qX7_fail, 0, [((-2147483648), 2147483647), ((-2147483648), 2147483647), (1, 3)], [.inr (.inr (.inl [1])), .inl (some 0, 0), .inl (some 1, 0)], [((1, 4), (some 2, 0))], [(1, (0, 0), [], [], [((1, 4), (1, 3))])], [])
set_option maxRecDepth 20000 in
abbrev xx_X7_fail_64 : scX := (Tx, invX, lnX7, [], cc_X7_fail_64)
set_option maxRecDepth 20000 in
theorem hh_X7_fail_64 : scH Tx invX cc_X7_fail_64 := scCheck_ok (X := xx_X7_fail_64) (nodes := []) (fuel := 4000) ⟨lqX7, fa_nil⟩ dtX7_fail (by decide +kernel)
abbrev cc_X7_fail_65 : scC := (qX7_fail, 0, [((-2147483648), 2147483647), ((-2147483648), 2147483647), (1, 3)], [.inr (.inr (.inl [1])), .inl (some 0, 0), .inl (some 1, 0)], [((1, 4), (some 2, 0))], [(1, (0, 0), [], [], [((1, 4), (1, 3))])], [])
set_option maxRecDepth 20000 in
abbrev xx_X7_fail_65 : scX := (Tx, invX, lnX7, [], cc_X7_fail_65)
set_option maxRecDepth 20000 in
theorem hh_X7_fail_65 : scH Tx invX cc_X7_fail_65 := scCheck_ok (X := xx_X7_fail_65) (nodes := []) (fuel := 4000) ⟨lqX7, fa_nil⟩ dtX7_fail (by decide +kernel)
abbrev cc_X7_fail_66 : scC := (qX7_fail, 0, [((-2147483648), 2147483647), ((-2147483648), 2147483647), (1, 3)], [.inr (.inr (.inl [1])), .inl (some 0, 0), .inl (some 1, 0)], [((1, 4), (some 2, 0))], [(1, (0, 0), [], [], [((1, 4), (1, 3))])], [])
set_option maxRecDepth 20000 in
abbrev xx_X7_fail_66 : scX := (Tx, invX, lnX7, [], cc_X7_fail_66)
set_option maxRecDepth 20000 in
theorem hh_X7_fail_66 : scH Tx invX cc_X7_fail_66 := scCheck_ok (X := xx_X7_fail_66) (nodes := []) (fuel := 4000) ⟨lqX7, fa_nil⟩ dtX7_fail (by decide +kernel)
abbrev cc_X7_fail_67 : scC := (qX7_fail, 0, [((-2147483648), 2147483647), ((-2147483648), 2147483647), (1, 3)], [.inr (.inr (.inl [1])), .inl (some 0, 0), .inl (some 1, 0)], [((1, 4), (some 2, 0))], [(1, (0, 0), [], [], [((1, 4), (1, 3))])], [])
set_option maxRecDepth 20000 in
abbrev xx_X7_fail_67 : scX := (Tx, invX, lnX7, [], cc_X7_fail_67)
set_option maxRecDepth 20000 in
theorem hh_X7_fail_67 : scH Tx invX cc_X7_fail_67 := scCheck_ok (X := xx_X7_fail_67) (nodes := []) (fuel := 4000) ⟨lqX7, fa_nil⟩ dtX7_fail (by decide +kernel)
abbrev cc_X7_fail_68 : scC := (qX7_fail, 0, [((-2147483648), 2147483647), ((-2147483648), 2147483647), (1, 3)], [.inr (.inr (.inl [1])), .inl (some 0, 0), .inl (some 1, 0)], [((1, 4), (some 2, 0))], [(1, (0, 0), [], [], [((1, 4), (1, 3))])], [])
set_option maxRecDepth 20000 in
abbrev xx_X7_fail_68 : scX := (Tx, invX, lnX7, [], cc_X7_fail_68)
set_option maxRecDepth 20000 in
theorem hh_X7_fail_68 : scH Tx invX cc_X7_fail_68 := scCheck_ok (X := xx_X7_fail_68) (nodes := []) (fuel := 4000) ⟨lqX7, fa_nil⟩ dtX7_fail (by decide +kernel)
abbrev cc_X7_takeNumber_3 : scC := (qX7_takeNumber, 2, [(1, 1), (9, 9), (1, 3)], [.inr (.inr (.inl [1])), .inl (some 0, 0), .inl (some 1, 0)], [((1, 4), (some 2, 0))], [(1, (1, 9), [], [], [((1, 4), (1, 3))]), (1, ((-1), (-1)), [], [], [((1, 4), (1, 3))])], [(1, 3, 1)])
set_option maxRecDepth 20000 in
abbrev xx_X7_takeNumber_3 : scX := (Tx, invX, lnX7, [(35, 0, 7, cc_X7_fail_45), (35, 0, 7, cc_X7_fail_47), (35, 0, 7, cc_X7_fail_49), (35, 0, 7, cc_X7_fail_51), (35, 0, 7, cc_X7_fail_54), (35, 0, 7, cc_X7_fail_57), (35, 0, 7, cc_X7_fail_60), (35, 0, 7, cc_X7_fail_63), (35, 0, 7, cc_X7_fail_66), (35, 0, 7, cc_X7_fail_46), (35, 0, 7, cc_X7_fail_48), (35, 0, 7, cc_X7_fail_50), (35, 0, 7, cc_X7_fail_52), (35, 0, 7, cc_X7_fail_53), (35, 0, 7, cc_X7_fail_55), (35, 0, 7, cc_X7_fail_56), (35, 0, 7, cc_X7_fail_58), (35, 0, 7, cc_X7_fail_59), (35, 0, 7, cc_X7_fail_61), (35, 0, 7, cc_X7_fail_62), (35, 0, 7, cc_X7_fail_64), (35, 0, 7, cc_X7_fail_65), (35, 0, 7, cc_X7_fail_67), (35, 0, 7, cc_X7_fail_68), (39, 0, 7, cc_X7_nextPlace_0)], cc_X7_takeNumber_3)
set_option maxRecDepth 20000 in
theorem hh_X7_takeNumber_3 : scH Tx invX cc_X7_takeNumber_3 := scCheck_ok (X := xx_X7_takeNumber_3) (nodes := [(8, ([(1, 1), (9, 9), (0, 600), ((-2147483648), 1000000), (1, 3), (0, 600), (0, 600)], [some (.inr (.inr (.inl [1]))), some (.inl (some 0, 0)), some (.inl (some 1, 0)), some (.inl (some 2, 0)), some (.inl (some 3, 0))], [], [((1, 4), (some 4, 0)), ((1, 3), (some 5, 0)), ((1, 2), (some 6, 0))]), ([0, 0, 0, 0, 0, (-2)], 1200))]) (fuel := 4000) ⟨lqX7, fa_cons (⟨⟨2, _, pcv_X7_35, rfl⟩, hh_X7_fail_45⟩) (fa_cons (⟨⟨2, _, pcv_X7_35, rfl⟩, hh_X7_fail_47⟩) (fa_cons (⟨⟨2, _, pcv_X7_35, rfl⟩, hh_X7_fail_49⟩) (fa_cons (⟨⟨2, _, pcv_X7_35, rfl⟩, hh_X7_fail_51⟩) (fa_cons (⟨⟨2, _, pcv_X7_35, rfl⟩, hh_X7_fail_54⟩) (fa_cons (⟨⟨2, _, pcv_X7_35, rfl⟩, hh_X7_fail_57⟩) (fa_cons (⟨⟨2, _, pcv_X7_35, rfl⟩, hh_X7_fail_60⟩) (fa_cons (⟨⟨2, _, pcv_X7_35, rfl⟩, hh_X7_fail_63⟩) (fa_cons (⟨⟨2, _, pcv_X7_35, rfl⟩, hh_X7_fail_66⟩) (fa_cons (⟨⟨2, _, pcv_X7_35, rfl⟩, hh_X7_fail_46⟩) (fa_cons (⟨⟨2, _, pcv_X7_35, rfl⟩, hh_X7_fail_48⟩) (fa_cons (⟨⟨2, _, pcv_X7_35, rfl⟩, hh_X7_fail_50⟩) (fa_cons (⟨⟨2, _, pcv_X7_35, rfl⟩, hh_X7_fail_52⟩) (fa_cons (⟨⟨2, _, pcv_X7_35, rfl⟩, hh_X7_fail_53⟩) (fa_cons (⟨⟨2, _, pcv_X7_35, rfl⟩, hh_X7_fail_55⟩) (fa_cons (⟨⟨2, _, pcv_X7_35, rfl⟩, hh_X7_fail_56⟩) (fa_cons (⟨⟨2, _, pcv_X7_35, rfl⟩, hh_X7_fail_58⟩) (fa_cons (⟨⟨2, _, pcv_X7_35, rfl⟩, hh_X7_fail_59⟩) (fa_cons (⟨⟨2, _, pcv_X7_35, rfl⟩, hh_X7_fail_61⟩) (fa_cons (⟨⟨2, _, pcv_X7_35, rfl⟩, hh_X7_fail_62⟩) (fa_cons (⟨⟨2, _, pcv_X7_35, rfl⟩, hh_X7_fail_64⟩) (fa_cons (⟨⟨2, _, pcv_X7_35, rfl⟩, hh_X7_fail_65⟩) (fa_cons (⟨⟨2, _, pcv_X7_35, rfl⟩, hh_X7_fail_67⟩) (fa_cons (⟨⟨2, _, pcv_X7_35, rfl⟩, hh_X7_fail_68⟩) (fa_cons (⟨⟨0, _, pcv_X7_39, rfl⟩, hh_X7_nextPlace_0⟩) (fa_nil)))))))))))))))))))))))))⟩ dtX7_takeNumber (by decide +kernel)
abbrev cc_X7_failed_0 : scC := (qX7_failed, 0, [(1, 3)], [.inr (.inr (.inl [1]))], [((1, 4), (some 0, 0))], [(1, (1, 1), [], [], [((1, 4), (1, 3))])], [])
set_option maxRecDepth 20000 in
abbrev xx_X7_failed_0 : scX := (Tx, invX, lnX7, [], cc_X7_failed_0)
set_option maxRecDepth 20000 in
theorem hh_X7_failed_0 : scH Tx invX cc_X7_failed_0 := scCheck_ok (X := xx_X7_failed_0) (nodes := []) (fuel := 4000) ⟨lqX7, fa_nil⟩ dtX7_failed (by decide +kernel)
abbrev cc_X7_takeNumber_4 : scC := (qX7_takeNumber, 2, [(0, 0), (64, 64), (0, 3)], [.inr (.inr (.inl [1])), .inl (some 0, 0), .inl (some 1, 0)], [((1, 4), (some 2, 0))], [(1, (0, 64), [], [], [((1, 4), (0, 3))]), (1, ((-1), (-1)), [], [], [((1, 4), (1, 3))])], [(1, 3, 3)])
set_option maxRecDepth 20000 in
abbrev xx_X7_takeNumber_4 : scX := (Tx, invX, lnX7, [(35, 0, 7, cc_X7_fail_1), (35, 0, 7, cc_X7_fail_0), (35, 0, 7, cc_X7_fail_2), (39, 0, 7, cc_X7_nextPlace_0)], cc_X7_takeNumber_4)
set_option maxRecDepth 20000 in
theorem hh_X7_takeNumber_4 : scH Tx invX cc_X7_takeNumber_4 := scCheck_ok (X := xx_X7_takeNumber_4) (nodes := [(8, ([(0, 0), (64, 64), (0, 600), ((-2147483648), 1000000), (0, 3), (0, 600), (0, 600)], [some (.inr (.inr (.inl [1]))), some (.inl (some 0, 0)), some (.inl (some 1, 0)), some (.inl (some 2, 0)), some (.inl (some 3, 0))], [], [((1, 4), (some 4, 0)), ((1, 3), (some 5, 0)), ((1, 2), (some 6, 0))]), ([0, 0, 0, 0, 0, (-2)], 1200))]) (fuel := 4000) ⟨lqX7, fa_cons (⟨⟨2, _, pcv_X7_35, rfl⟩, hh_X7_fail_1⟩) (fa_cons (⟨⟨2, _, pcv_X7_35, rfl⟩, hh_X7_fail_0⟩) (fa_cons (⟨⟨2, _, pcv_X7_35, rfl⟩, hh_X7_fail_2⟩) (fa_cons (⟨⟨0, _, pcv_X7_39, rfl⟩, hh_X7_nextPlace_0⟩) (fa_nil))))⟩ dtX7_takeNumber (by decide +kernel)
abbrev cc_X7_takeNumber_5 : scC := (qX7_takeNumber, 2, [(1, 1), (99, 99), (0, 3)], [.inr (.inr (.inl [1])), .inl (some 0, 0), .inl (some 1, 0)], [((1, 4), (some 2, 0))], [(1, (1, 99), [], [], [((1, 4), (0, 3))]), (1, ((-1), (-1)), [], [], [((1, 4), (1, 3))])], [(1, 3, 3)])
set_option maxRecDepth 20000 in
abbrev xx_X7_takeNumber_5 : scX := (Tx, invX, lnX7, [(35, 0, 7, cc_X7_fail_1), (35, 0, 7, cc_X7_fail_0), (35, 0, 7, cc_X7_fail_2), (39, 0, 7, cc_X7_nextPlace_0)], cc_X7_takeNumber_5)
set_option maxRecDepth 20000 in
theorem hh_X7_takeNumber_5 : scH Tx invX cc_X7_takeNumber_5 := scCheck_ok (X := xx_X7_takeNumber_5) (nodes := [(8, ([(1, 1), (99, 99), (0, 600), ((-2147483648), 1000000), (0, 3), (0, 600), (0, 600)], [some (.inr (.inr (.inl [1]))), some (.inl (some 0, 0)), some (.inl (some 1, 0)), some (.inl (some 2, 0)), some (.inl (some 3, 0))], [], [((1, 4), (some 4, 0)), ((1, 3), (some 5, 0)), ((1, 2), (some 6, 0))]), ([0, 0, 0, 0, 0, (-2)], 1200))]) (fuel := 4000) ⟨lqX7, fa_cons (⟨⟨2, _, pcv_X7_35, rfl⟩, hh_X7_fail_1⟩) (fa_cons (⟨⟨2, _, pcv_X7_35, rfl⟩, hh_X7_fail_0⟩) (fa_cons (⟨⟨2, _, pcv_X7_35, rfl⟩, hh_X7_fail_2⟩) (fa_cons (⟨⟨0, _, pcv_X7_39, rfl⟩, hh_X7_nextPlace_0⟩) (fa_nil))))⟩ dtX7_takeNumber (by decide +kernel)
abbrev cc_X7_takeNumber_6 : scC := (qX7_takeNumber, 2, [(1, 1), (9, 9), (0, 3)], [.inr (.inr (.inl [1])), .inl (some 0, 0), .inl (some 1, 0)], [((1, 4), (some 2, 0))], [(1, (1, 9), [], [], [((1, 4), (0, 3))]), (1, ((-1), (-1)), [], [], [((1, 4), (1, 3))])], [(1, 3, 3)])
set_option maxRecDepth 20000 in
abbrev xx_X7_takeNumber_6 : scX := (Tx, invX, lnX7, [(35, 0, 7, cc_X7_fail_1), (35, 0, 7, cc_X7_fail_0), (35, 0, 7, cc_X7_fail_2), (39, 0, 7, cc_X7_nextPlace_0)], cc_X7_takeNumber_6)
set_option maxRecDepth 20000 in
theorem hh_X7_takeNumber_6 : scH Tx invX cc_X7_takeNumber_6 := scCheck_ok (X := xx_X7_takeNumber_6) (nodes := [(8, ([(1, 1), (9, 9), (0, 600), ((-2147483648), 1000000), (0, 3), (0, 600), (0, 600)], [some (.inr (.inr (.inl [1]))), some (.inl (some 0, 0)), some (.inl (some 1, 0)), some (.inl (some 2, 0)), some (.inl (some 3, 0))], [], [((1, 4), (some 4, 0)), ((1, 3), (some 5, 0)), ((1, 2), (some 6, 0))]), ([0, 0, 0, 0, 0, (-2)], 1200))]) (fuel := 4000) ⟨lqX7, fa_cons (⟨⟨2, _, pcv_X7_35, rfl⟩, hh_X7_fail_1⟩) (fa_cons (⟨⟨2, _, pcv_X7_35, rfl⟩, hh_X7_fail_0⟩) (fa_cons (⟨⟨2, _, pcv_X7_35, rfl⟩, hh_X7_fail_2⟩) (fa_cons (⟨⟨0, _, pcv_X7_39, rfl⟩, hh_X7_nextPlace_0⟩) (fa_nil))))⟩ dtX7_takeNumber (by decide +kernel)
abbrev cc_X7_failed_1 : scC := (qX7_failed, 0, [(0, 3)], [.inr (.inr (.inl [1]))], [((1, 4), (some 0, 0))], [(1, (0, 0), [], [], [((1, 4), (0, 0))]), (1, (1, 1), [], [], [((1, 4), (1, 3))])], [])
set_option maxRecDepth 20000 in
abbrev xx_X7_failed_1 : scX := (Tx, invX, lnX7, [], cc_X7_failed_1)
set_option maxRecDepth 20000 in
theorem hh_X7_failed_1 : scH Tx invX cc_X7_failed_1 := scCheck_ok (X := xx_X7_failed_1) (nodes := []) (fuel := 4000) ⟨lqX7, fa_nil⟩ dtX7_failed (by decide +kernel)
abbrev cc_X8_readLife_0 : scC := (qX8_readLife, 3, [], [.inr (.inr (.inl [13])), .inr (.inr (.inl [1]))], [], [(1, (0, 1), [], [], [])], [(1, 3, 3), (13, 9, 1), (14, 0, 8), (15, 0, 8), (16, 0, 8), (17, 0, 8), (18, 0, 8), (19, 0, 8)])
set_option maxRecDepth 20000 in
abbrev xx_X8_readLife_0 : scX := (Tx, invX, lnX8, [(113, 0, 7, cc_X7_takeNumber_1), (113, 0, 7, cc_X7_takeNumber_2), (113, 0, 7, cc_X7_takeNumber_3), (113, 0, 7, cc_X7_takeNumber_0), (113, 0, 7, cc_X7_takeNumber_4), (113, 0, 7, cc_X7_takeNumber_5), (113, 0, 7, cc_X7_takeNumber_6), (117, 0, 7, cc_X7_failed_0), (117, 0, 7, cc_X7_failed_1)], cc_X8_readLife_0)
set_option maxRecDepth 20000 in
theorem hh_X8_readLife_0 : scH Tx invX cc_X8_readLife_0 := scCheck_ok (X := xx_X8_readLife_0) (nodes := []) (fuel := 4000) ⟨lqX8, fa_cons (⟨⟨2, _, pcv_X8_113, rfl⟩, hh_X7_takeNumber_1⟩) (fa_cons (⟨⟨2, _, pcv_X8_113, rfl⟩, hh_X7_takeNumber_2⟩) (fa_cons (⟨⟨2, _, pcv_X8_113, rfl⟩, hh_X7_takeNumber_3⟩) (fa_cons (⟨⟨2, _, pcv_X8_113, rfl⟩, hh_X7_takeNumber_0⟩) (fa_cons (⟨⟨2, _, pcv_X8_113, rfl⟩, hh_X7_takeNumber_4⟩) (fa_cons (⟨⟨2, _, pcv_X8_113, rfl⟩, hh_X7_takeNumber_5⟩) (fa_cons (⟨⟨2, _, pcv_X8_113, rfl⟩, hh_X7_takeNumber_6⟩) (fa_cons (⟨⟨0, _, pcv_X8_117, rfl⟩, hh_X7_failed_0⟩) (fa_cons (⟨⟨0, _, pcv_X8_117, rfl⟩, hh_X7_failed_1⟩) (fa_nil)))))))))⟩ dtX8_readLife (by decide +kernel)
abbrev cc_X7_fail_69 : scC := (qX7_fail, 0, [(3, 3), (0, 600), (0, 3)], [.inr (.inr (.inl [1])), .inl (some 0, 0), .inl (some 1, 0)], [((1, 4), (some 2, 0))], [(1, (0, 0), [], [], [((1, 4), (1, 3))])], [(1, 4, 2)])
set_option maxRecDepth 20000 in
abbrev xx_X7_fail_69 : scX := (Tx, invX, lnX7, [], cc_X7_fail_69)
set_option maxRecDepth 20000 in
theorem hh_X7_fail_69 : scH Tx invX cc_X7_fail_69 := scCheck_ok (X := xx_X7_fail_69) (nodes := []) (fuel := 4000) ⟨lqX7, fa_nil⟩ dtX7_fail (by decide +kernel)
abbrev cc_X7_takeNumber_7 : scC := (qX7_takeNumber, 2, [(0, 0), ((-1), 7), (0, 3)], [.inr (.inr (.inl [1])), .inl (some 0, 0), .inl (some 1, 0)], [((1, 4), (some 2, 0))], [(1, (0, 7), [], [], [((1, 4), (0, 3))]), (1, ((-1), (-1)), [], [], [((1, 4), (1, 3))])], [(1, 3, 3)])
set_option maxRecDepth 20000 in
abbrev xx_X7_takeNumber_7 : scX := (Tx, invX, lnX7, [(35, 0, 7, cc_X7_fail_1), (35, 0, 7, cc_X7_fail_0), (35, 0, 7, cc_X7_fail_2), (39, 0, 7, cc_X7_nextPlace_0)], cc_X7_takeNumber_7)
set_option maxRecDepth 20000 in
theorem hh_X7_takeNumber_7 : scH Tx invX cc_X7_takeNumber_7 := scCheck_ok (X := xx_X7_takeNumber_7) (nodes := [(8, ([(0, 0), ((-1), 7), (0, 600), ((-2147483648), 1000000), (0, 3), (0, 600), (0, 600)], [some (.inr (.inr (.inl [1]))), some (.inl (some 0, 0)), some (.inl (some 1, 0)), some (.inl (some 2, 0)), some (.inl (some 3, 0))], [], [((1, 4), (some 4, 0)), ((1, 3), (some 5, 0)), ((1, 2), (some 6, 0))]), ([0, 0, 0, 0, 0, (-2)], 1200))]) (fuel := 4000) ⟨lqX7, fa_cons (⟨⟨2, _, pcv_X7_35, rfl⟩, hh_X7_fail_1⟩) (fa_cons (⟨⟨2, _, pcv_X7_35, rfl⟩, hh_X7_fail_0⟩) (fa_cons (⟨⟨2, _, pcv_X7_35, rfl⟩, hh_X7_fail_2⟩) (fa_cons (⟨⟨0, _, pcv_X7_39, rfl⟩, hh_X7_nextPlace_0⟩) (fa_nil))))⟩ dtX7_takeNumber (by decide +kernel)
abbrev cc_X7_fail_70 : scC := (qX7_fail, 0, [((-2147483648), 2147483647), ((-2147483648), 2147483647), (1, 3)], [.inr (.inr (.inl [1])), .inl (some 0, 0), .inl (some 1, 0)], [((1, 4), (some 2, 0))], [(1, (0, 0), [], [], [((1, 4), (1, 3))])], [])
set_option maxRecDepth 20000 in
abbrev xx_X7_fail_70 : scX := (Tx, invX, lnX7, [], cc_X7_fail_70)
set_option maxRecDepth 20000 in
theorem hh_X7_fail_70 : scH Tx invX cc_X7_fail_70 := scCheck_ok (X := xx_X7_fail_70) (nodes := []) (fuel := 4000) ⟨lqX7, fa_nil⟩ dtX7_fail (by decide +kernel)
abbrev cc_X7_fail_71 : scC := (qX7_fail, 0, [((-2147483648), 2147483647), ((-2147483648), 2147483647), (1, 3)], [.inr (.inr (.inl [1])), .inl (some 0, 0), .inl (some 1, 0)], [((1, 4), (some 2, 0))], [(1, (0, 0), [], [], [((1, 4), (1, 3))])], [])
set_option maxRecDepth 20000 in
abbrev xx_X7_fail_71 : scX := (Tx, invX, lnX7, [], cc_X7_fail_71)
set_option maxRecDepth 20000 in
theorem hh_X7_fail_71 : scH Tx invX cc_X7_fail_71 := scCheck_ok (X := xx_X7_fail_71) (nodes := []) (fuel := 4000) ⟨lqX7, fa_nil⟩ dtX7_fail (by decide +kernel)
abbrev cc_X7_fail_72 : scC := (qX7_fail, 0, [((-2147483648), 2147483647), ((-2147483648), 2147483647), (1, 3)], [.inr (.inr (.inl [1])), .inl (some 0, 0), .inl (some 1, 0)], [((1, 4), (some 2, 0))], [(1, (0, 0), [], [], [((1, 4), (1, 3))])], [])
set_option maxRecDepth 20000 in
abbrev xx_X7_fail_72 : scX := (Tx, invX, lnX7, [], cc_X7_fail_72)
set_option maxRecDepth 20000 in
theorem hh_X7_fail_72 : scH Tx invX cc_X7_fail_72 := scCheck_ok (X := xx_X7_fail_72) (nodes := []) (fuel := 4000) ⟨lqX7, fa_nil⟩ dtX7_fail (by decide +kernel)
abbrev cc_X7_fail_73 : scC := (qX7_fail, 0, [((-2147483648), 2147483647), ((-2147483648), 2147483647), (1, 3)], [.inr (.inr (.inl [1])), .inl (some 0, 0), .inl (some 1, 0)], [((1, 4), (some 2, 0))], [(1, (0, 0), [], [], [((1, 4), (1, 3))])], [])
set_option maxRecDepth 20000 in
abbrev xx_X7_fail_73 : scX := (Tx, invX, lnX7, [], cc_X7_fail_73)
set_option maxRecDepth 20000 in
theorem hh_X7_fail_73 : scH Tx invX cc_X7_fail_73 := scCheck_ok (X := xx_X7_fail_73) (nodes := []) (fuel := 4000) ⟨lqX7, fa_nil⟩ dtX7_fail (by decide +kernel)
abbrev cc_X7_fail_74 : scC := (qX7_fail, 0, [((-2147483648), 2147483647), ((-2147483648), 2147483647), (1, 3)], [.inr (.inr (.inl [1])), .inl (some 0, 0), .inl (some 1, 0)], [((1, 4), (some 2, 0))], [(1, (0, 0), [], [], [((1, 4), (1, 3))])], [])
set_option maxRecDepth 20000 in
abbrev xx_X7_fail_74 : scX := (Tx, invX, lnX7, [], cc_X7_fail_74)
set_option maxRecDepth 20000 in
theorem hh_X7_fail_74 : scH Tx invX cc_X7_fail_74 := scCheck_ok (X := xx_X7_fail_74) (nodes := []) (fuel := 4000) ⟨lqX7, fa_nil⟩ dtX7_fail (by decide +kernel)
abbrev cc_X7_fail_75 : scC := (qX7_fail, 0, [((-2147483648), 2147483647), ((-2147483648), 2147483647), (1, 3)], [.inr (.inr (.inl [1])), .inl (some 0, 0), .inl (some 1, 0)], [((1, 4), (some 2, 0))], [(1, (0, 0), [], [], [((1, 4), (1, 3))])], [])
set_option maxRecDepth 20000 in
abbrev xx_X7_fail_75 : scX := (Tx, invX, lnX7, [], cc_X7_fail_75)
set_option maxRecDepth 20000 in
theorem hh_X7_fail_75 : scH Tx invX cc_X7_fail_75 := scCheck_ok (X := xx_X7_fail_75) (nodes := []) (fuel := 4000) ⟨lqX7, fa_nil⟩ dtX7_fail (by decide +kernel)
abbrev cc_X7_fail_76 : scC := (qX7_fail, 0, [((-2147483648), 2147483647), ((-2147483648), 2147483647), (1, 3)], [.inr (.inr (.inl [1])), .inl (some 0, 0), .inl (some 1, 0)], [((1, 4), (some 2, 0))], [(1, (0, 0), [], [], [((1, 4), (1, 3))])], [])
set_option maxRecDepth 20000 in
abbrev xx_X7_fail_76 : scX := (Tx, invX, lnX7, [], cc_X7_fail_76)
set_option maxRecDepth 20000 in
theorem hh_X7_fail_76 : scH Tx invX cc_X7_fail_76 := scCheck_ok (X := xx_X7_fail_76) (nodes := []) (fuel := 4000) ⟨lqX7, fa_nil⟩ dtX7_fail (by decide +kernel)
abbrev cc_X7_fail_77 : scC := (qX7_fail, 0, [((-2147483648), 2147483647), ((-2147483648), 2147483647), (1, 3)], [.inr (.inr (.inl [1])), .inl (some 0, 0), .inl (some 1, 0)], [((1, 4), (some 2, 0))], [(1, (0, 0), [], [], [((1, 4), (1, 3))])], [])
set_option maxRecDepth 20000 in
abbrev xx_X7_fail_77 : scX := (Tx, invX, lnX7, [], cc_X7_fail_77)
set_option maxRecDepth 20000 in
theorem hh_X7_fail_77 : scH Tx invX cc_X7_fail_77 := scCheck_ok (X := xx_X7_fail_77) (nodes := []) (fuel := 4000) ⟨lqX7, fa_nil⟩ dtX7_fail (by decide +kernel)
abbrev cc_X7_fail_78 : scC := (qX7_fail, 0, [((-2147483648), 2147483647), ((-2147483648), 2147483647), (1, 3)], [.inr (.inr (.inl [1])), .inl (some 0, 0), .inl (some 1, 0)], [((1, 4), (some 2, 0))], [(1, (0, 0), [], [], [((1, 4), (1, 3))])], [])
set_option maxRecDepth 20000 in
abbrev xx_X7_fail_78 : scX := (Tx, invX, lnX7, [], cc_X7_fail_78)
set_option maxRecDepth 20000 in
theorem hh_X7_fail_78 : scH Tx invX cc_X7_fail_78 := scCheck_ok (X := xx_X7_fail_78) (nodes := []) (fuel := 4000) ⟨lqX7, fa_nil⟩ dtX7_fail (by decide +kernel)
abbrev cc_X7_fail_79 : scC := (qX7_fail, 0, [((-2147483648), 2147483647), ((-2147483648), 2147483647), (1, 3)], [.inr (.inr (.inl [1])), .inl (some 0, 0), .inl (some 1, 0)], [((1, 4), (some 2, 0))], [(1, (0, 0), [], [], [((1, 4), (1, 3))])], [])
set_option maxRecDepth 20000 in
abbrev xx_X7_fail_79 : scX := (Tx, invX, lnX7, [], cc_X7_fail_79)
set_option maxRecDepth 20000 in
theorem hh_X7_fail_79 : scH Tx invX cc_X7_fail_79 := scCheck_ok (X := xx_X7_fail_79) (nodes := []) (fuel := 4000) ⟨lqX7, fa_nil⟩ dtX7_fail (by decide +kernel)
abbrev cc_X7_fail_80 : scC := (qX7_fail, 0, [((-2147483648), 2147483647), ((-2147483648), 2147483647), (1, 3)], [.inr (.inr (.inl [1])), .inl (some 0, 0), .inl (some 1, 0)], [((1, 4), (some 2, 0))], [(1, (0, 0), [], [], [((1, 4), (1, 3))])], [])
set_option maxRecDepth 20000 in
abbrev xx_X7_fail_80 : scX := (Tx, invX, lnX7, [], cc_X7_fail_80)
set_option maxRecDepth 20000 in
theorem hh_X7_fail_80 : scH Tx invX cc_X7_fail_80 := scCheck_ok (X := xx_X7_fail_80) (nodes := []) (fuel := 4000) ⟨lqX7, fa_nil⟩ dtX7_fail (by decide +kernel)
abbrev cc_X7_fail_81 : scC := (qX7_fail, 0, [((-2147483648), 2147483647), ((-2147483648), 2147483647), (1, 3)], [.inr (.inr (.inl [1])), .inl (some 0, 0), .inl (some 1, 0)], [((1, 4), (some 2, 0))], [(1, (0, 0), [], [], [((1, 4), (1, 3))])], [])
set_option maxRecDepth 20000 in
abbrev xx_X7_fail_81 : scX := (Tx, invX, lnX7, [], cc_X7_fail_81)
set_option maxRecDepth 20000 in
theorem hh_X7_fail_81 : scH Tx invX cc_X7_fail_81 := scCheck_ok (X := xx_X7_fail_81) (nodes := []) (fuel := 4000) ⟨lqX7, fa_nil⟩ dtX7_fail (by decide +kernel)
abbrev cc_X7_fail_82 : scC := (qX7_fail, 0, [((-2147483648), 2147483647), ((-2147483648), 2147483647), (1, 3)], [.inr (.inr (.inl [1])), .inl (some 0, 0), .inl (some 1, 0)], [((1, 4), (some 2, 0))], [(1, (0, 0), [], [], [((1, 4), (1, 3))])], [])
set_option maxRecDepth 20000 in
abbrev xx_X7_fail_82 : scX := (Tx, invX, lnX7, [], cc_X7_fail_82)
set_option maxRecDepth 20000 in
theorem hh_X7_fail_82 : scH Tx invX cc_X7_fail_82 := scCheck_ok (X := xx_X7_fail_82) (nodes := []) (fuel := 4000) ⟨lqX7, fa_nil⟩ dtX7_fail (by decide +kernel)
abbrev cc_X7_fail_83 : scC := (qX7_fail, 0, [((-2147483648), 2147483647), ((-2147483648), 2147483647), (1, 3)], [.inr (.inr (.inl [1])), .inl (some 0, 0), .inl (some 1, 0)], [((1, 4), (some 2, 0))], [(1, (0, 0), [], [], [((1, 4), (1, 3))])], [])
set_option maxRecDepth 20000 in
abbrev xx_X7_fail_83 : scX := (Tx, invX, lnX7, [], cc_X7_fail_83)
set_option maxRecDepth 20000 in
theorem hh_X7_fail_83 : scH Tx invX cc_X7_fail_83 := scCheck_ok (X := xx_X7_fail_83) (nodes := []) (fuel := 4000) ⟨lqX7, fa_nil⟩ dtX7_fail (by decide +kernel)
abbrev cc_X7_fail_84 : scC := (qX7_fail, 0, [((-2147483648), 2147483647), ((-2147483648), 2147483647), (1, 3)], [.inr (.inr (.inl [1])), .inl (some 0, 0), .inl (some 1, 0)], [((1, 4), (some 2, 0))], [(1, (0, 0), [], [], [((1, 4), (1, 3))])], [])
set_option maxRecDepth 20000 in
abbrev xx_X7_fail_84 : scX := (Tx, invX, lnX7, [], cc_X7_fail_84)
set_option maxRecDepth 20000 in
theorem hh_X7_fail_84 : scH Tx invX cc_X7_fail_84 := scCheck_ok (X := xx_X7_fail_84) (nodes := []) (fuel := 4000) ⟨lqX7, fa_nil⟩ dtX7_fail (by decide +kernel)
abbrev cc_X7_fail_85 : scC := (qX7_fail, 0, [((-2147483648), 2147483647), ((-2147483648), 2147483647), (1, 3)], [.inr (.inr (.inl [1])), .inl (some 0, 0), .inl (some 1, 0)], [((1, 4), (some 2, 0))], [(1, (0, 0), [], [], [((1, 4), (1, 3))])], [])
set_option maxRecDepth 20000 in
abbrev xx_X7_fail_85 : scX := (Tx, invX, lnX7, [], cc_X7_fail_85)
set_option maxRecDepth 20000 in
theorem hh_X7_fail_85 : scH Tx invX cc_X7_fail_85 := scCheck_ok (X := xx_X7_fail_85) (nodes := []) (fuel := 4000) ⟨lqX7, fa_nil⟩ dtX7_fail (by decide +kernel)
abbrev cc_X7_fail_86 : scC := (qX7_fail, 0, [((-2147483648), 2147483647), ((-2147483648), 2147483647), (1, 3)], [.inr (.inr (.inl [1])), .inl (some 0, 0), .inl (some 1, 0)], [((1, 4), (some 2, 0))], [(1, (0, 0), [], [], [((1, 4), (1, 3))])], [])
set_option maxRecDepth 20000 in
abbrev xx_X7_fail_86 : scX := (Tx, invX, lnX7, [], cc_X7_fail_86)
set_option maxRecDepth 20000 in
theorem hh_X7_fail_86 : scH Tx invX cc_X7_fail_86 := scCheck_ok (X := xx_X7_fail_86) (nodes := []) (fuel := 4000) ⟨lqX7, fa_nil⟩ dtX7_fail (by decide +kernel)
abbrev cc_X7_fail_87 : scC := (qX7_fail, 0, [((-2147483648), 2147483647), ((-2147483648), 2147483647), (1, 3)], [.inr (.inr (.inl [1])), .inl (some 0, 0), .inl (some 1, 0)], [((1, 4), (some 2, 0))], [(1, (0, 0), [], [], [((1, 4), (1, 3))])], [])
set_option maxRecDepth 20000 in
abbrev xx_X7_fail_87 : scX := (Tx, invX, lnX7, [], cc_X7_fail_87)
set_option maxRecDepth 20000 in
theorem hh_X7_fail_87 : scH Tx invX cc_X7_fail_87 := scCheck_ok (X := xx_X7_fail_87) (nodes := []) (fuel := 4000) ⟨lqX7, fa_nil⟩ dtX7_fail (by decide +kernel)
abbrev cc_X7_fail_88 : scC := (qX7_fail, 0, [((-2147483648), 2147483647), ((-2147483648), 2147483647), (1, 3)], [.inr (.inr (.inl [1])), .inl (some 0, 0), .inl (some 1, 0)], [((1, 4), (some 2, 0))], [(1, (0, 0), [], [], [((1, 4), (1, 3))])], [])
set_option maxRecDepth 20000 in
abbrev xx_X7_fail_88 : scX := (Tx, invX, lnX7, [], cc_X7_fail_88)
set_option maxRecDepth 20000 in
theorem hh_X7_fail_88 : scH Tx invX cc_X7_fail_88 := scCheck_ok (X := xx_X7_fail_88) (nodes := []) (fuel := 4000) ⟨lqX7, fa_nil⟩ dtX7_fail (by decide +kernel)
abbrev cc_X7_fail_89 : scC := (qX7_fail, 0, [((-2147483648), 2147483647), ((-2147483648), 2147483647), (1, 3)], [.inr (.inr (.inl [1])), .inl (some 0, 0), .inl (some 1, 0)], [((1, 4), (some 2, 0))], [(1, (0, 0), [], [], [((1, 4), (1, 3))])], [])
set_option maxRecDepth 20000 in
abbrev xx_X7_fail_89 : scX := (Tx, invX, lnX7, [], cc_X7_fail_89)
set_option maxRecDepth 20000 in
theorem hh_X7_fail_89 : scH Tx invX cc_X7_fail_89 := scCheck_ok (X := xx_X7_fail_89) (nodes := []) (fuel := 4000) ⟨lqX7, fa_nil⟩ dtX7_fail (by decide +kernel)
abbrev cc_X7_fail_90 : scC := (qX7_fail, 0, [((-2147483648), 2147483647), ((-2147483648), 2147483647), (1, 3)], [.inr (.inr (.inl [1])), .inl (some 0, 0), .inl (some 1, 0)], [((1, 4), (some 2, 0))], [(1, (0, 0), [], [], [((1, 4), (1, 3))])], [])
set_option maxRecDepth 20000 in
abbrev xx_X7_fail_90 : scX := (Tx, invX, lnX7, [], cc_X7_fail_90)
set_option maxRecDepth 20000 in
theorem hh_X7_fail_90 : scH Tx invX cc_X7_fail_90 := scCheck_ok (X := xx_X7_fail_90) (nodes := []) (fuel := 4000) ⟨lqX7, fa_nil⟩ dtX7_fail (by decide +kernel)
abbrev cc_X7_takeNumber_8 : scC := (qX7_takeNumber, 2, [(0, 0), (5, 5), (1, 3)], [.inr (.inr (.inl [1])), .inl (some 0, 0), .inl (some 1, 0)], [((1, 4), (some 2, 0))], [(1, (0, 5), [], [], [((1, 4), (1, 3))]), (1, ((-1), (-1)), [], [], [((1, 4), (1, 3))])], [(1, 3, 1)])
set_option maxRecDepth 20000 in
abbrev xx_X7_takeNumber_8 : scX := (Tx, invX, lnX7, [(35, 0, 7, cc_X7_fail_70), (35, 0, 7, cc_X7_fail_71), (35, 0, 7, cc_X7_fail_72), (35, 0, 7, cc_X7_fail_73), (35, 0, 7, cc_X7_fail_76), (35, 0, 7, cc_X7_fail_79), (35, 0, 7, cc_X7_fail_82), (35, 0, 7, cc_X7_fail_85), (35, 0, 7, cc_X7_fail_88), (35, 0, 7, cc_X7_fail_74), (35, 0, 7, cc_X7_fail_75), (35, 0, 7, cc_X7_fail_77), (35, 0, 7, cc_X7_fail_78), (35, 0, 7, cc_X7_fail_80), (35, 0, 7, cc_X7_fail_81), (35, 0, 7, cc_X7_fail_83), (35, 0, 7, cc_X7_fail_84), (35, 0, 7, cc_X7_fail_86), (35, 0, 7, cc_X7_fail_87), (35, 0, 7, cc_X7_fail_89), (35, 0, 7, cc_X7_fail_90), (39, 0, 7, cc_X7_nextPlace_0)], cc_X7_takeNumber_8)
set_option maxRecDepth 20000 in
theorem hh_X7_takeNumber_8 : scH Tx invX cc_X7_takeNumber_8 := scCheck_ok (X := xx_X7_takeNumber_8) (nodes := [(8, ([(0, 0), (5, 5), (0, 600), ((-2147483648), 1000000), (1, 3), (0, 600), (0, 600)], [some (.inr (.inr (.inl [1]))), some (.inl (some 0, 0)), some (.inl (some 1, 0)), some (.inl (some 2, 0)), some (.inl (some 3, 0))], [], [((1, 4), (some 4, 0)), ((1, 3), (some 5, 0)), ((1, 2), (some 6, 0))]), ([0, 0, 0, 0, 0, (-2)], 1200))]) (fuel := 4000) ⟨lqX7, fa_cons (⟨⟨2, _, pcv_X7_35, rfl⟩, hh_X7_fail_70⟩) (fa_cons (⟨⟨2, _, pcv_X7_35, rfl⟩, hh_X7_fail_71⟩) (fa_cons (⟨⟨2, _, pcv_X7_35, rfl⟩, hh_X7_fail_72⟩) (fa_cons (⟨⟨2, _, pcv_X7_35, rfl⟩, hh_X7_fail_73⟩) (fa_cons (⟨⟨2, _, pcv_X7_35, rfl⟩, hh_X7_fail_76⟩) (fa_cons (⟨⟨2, _, pcv_X7_35, rfl⟩, hh_X7_fail_79⟩) (fa_cons (⟨⟨2, _, pcv_X7_35, rfl⟩, hh_X7_fail_82⟩) (fa_cons (⟨⟨2, _, pcv_X7_35, rfl⟩, hh_X7_fail_85⟩) (fa_cons (⟨⟨2, _, pcv_X7_35, rfl⟩, hh_X7_fail_88⟩) (fa_cons (⟨⟨2, _, pcv_X7_35, rfl⟩, hh_X7_fail_74⟩) (fa_cons (⟨⟨2, _, pcv_X7_35, rfl⟩, hh_X7_fail_75⟩) (fa_cons (⟨⟨2, _, pcv_X7_35, rfl⟩, hh_X7_fail_77⟩) (fa_cons (⟨⟨2, _, pcv_X7_35, rfl⟩, hh_X7_fail_78⟩) (fa_cons (⟨⟨2, _, pcv_X7_35, rfl⟩, hh_X7_fail_80⟩) (fa_cons (⟨⟨2, _, pcv_X7_35, rfl⟩, hh_X7_fail_81⟩) (fa_cons (⟨⟨2, _, pcv_X7_35, rfl⟩, hh_X7_fail_83⟩) (fa_cons (⟨⟨2, _, pcv_X7_35, rfl⟩, hh_X7_fail_84⟩) (fa_cons (⟨⟨2, _, pcv_X7_35, rfl⟩, hh_X7_fail_86⟩) (fa_cons (⟨⟨2, _, pcv_X7_35, rfl⟩, hh_X7_fail_87⟩) (fa_cons (⟨⟨2, _, pcv_X7_35, rfl⟩, hh_X7_fail_89⟩) (fa_cons (⟨⟨2, _, pcv_X7_35, rfl⟩, hh_X7_fail_90⟩) (fa_cons (⟨⟨0, _, pcv_X7_39, rfl⟩, hh_X7_nextPlace_0⟩) (fa_nil))))))))))))))))))))))⟩ dtX7_takeNumber (by decide +kernel)
abbrev cc_X7_fail_91 : scC := (qX7_fail, 0, [((-2147483648), 2147483647), ((-2147483648), 2147483647), (1, 3)], [.inr (.inr (.inl [1])), .inl (some 0, 0), .inl (some 1, 0)], [((1, 4), (some 2, 0))], [(1, (0, 0), [], [], [((1, 4), (1, 3))])], [])
set_option maxRecDepth 20000 in
abbrev xx_X7_fail_91 : scX := (Tx, invX, lnX7, [], cc_X7_fail_91)
set_option maxRecDepth 20000 in
theorem hh_X7_fail_91 : scH Tx invX cc_X7_fail_91 := scCheck_ok (X := xx_X7_fail_91) (nodes := []) (fuel := 4000) ⟨lqX7, fa_nil⟩ dtX7_fail (by decide +kernel)
abbrev cc_X7_fail_92 : scC := (qX7_fail, 0, [((-2147483648), 2147483647), ((-2147483648), 2147483647), (1, 3)], [.inr (.inr (.inl [1])), .inl (some 0, 0), .inl (some 1, 0)], [((1, 4), (some 2, 0))], [(1, (0, 0), [], [], [((1, 4), (1, 3))])], [])
set_option maxRecDepth 20000 in
abbrev xx_X7_fail_92 : scX := (Tx, invX, lnX7, [], cc_X7_fail_92)
set_option maxRecDepth 20000 in
theorem hh_X7_fail_92 : scH Tx invX cc_X7_fail_92 := scCheck_ok (X := xx_X7_fail_92) (nodes := []) (fuel := 4000) ⟨lqX7, fa_nil⟩ dtX7_fail (by decide +kernel)
abbrev cc_X7_fail_93 : scC := (qX7_fail, 0, [((-2147483648), 2147483647), ((-2147483648), 2147483647), (1, 3)], [.inr (.inr (.inl [1])), .inl (some 0, 0), .inl (some 1, 0)], [((1, 4), (some 2, 0))], [(1, (0, 0), [], [], [((1, 4), (1, 3))])], [])
set_option maxRecDepth 20000 in
abbrev xx_X7_fail_93 : scX := (Tx, invX, lnX7, [], cc_X7_fail_93)
set_option maxRecDepth 20000 in
theorem hh_X7_fail_93 : scH Tx invX cc_X7_fail_93 := scCheck_ok (X := xx_X7_fail_93) (nodes := []) (fuel := 4000) ⟨lqX7, fa_nil⟩ dtX7_fail (by decide +kernel)
abbrev cc_X7_fail_94 : scC := (qX7_fail, 0, [((-2147483648), 2147483647), ((-2147483648), 2147483647), (1, 3)], [.inr (.inr (.inl [1])), .inl (some 0, 0), .inl (some 1, 0)], [((1, 4), (some 2, 0))], [(1, (0, 0), [], [], [((1, 4), (1, 3))])], [])
set_option maxRecDepth 20000 in
abbrev xx_X7_fail_94 : scX := (Tx, invX, lnX7, [], cc_X7_fail_94)
set_option maxRecDepth 20000 in
theorem hh_X7_fail_94 : scH Tx invX cc_X7_fail_94 := scCheck_ok (X := xx_X7_fail_94) (nodes := []) (fuel := 4000) ⟨lqX7, fa_nil⟩ dtX7_fail (by decide +kernel)
abbrev cc_X7_fail_95 : scC := (qX7_fail, 0, [((-2147483648), 2147483647), ((-2147483648), 2147483647), (1, 3)], [.inr (.inr (.inl [1])), .inl (some 0, 0), .inl (some 1, 0)], [((1, 4), (some 2, 0))], [(1, (0, 0), [], [], [((1, 4), (1, 3))])], [])
set_option maxRecDepth 20000 in
abbrev xx_X7_fail_95 : scX := (Tx, invX, lnX7, [], cc_X7_fail_95)
set_option maxRecDepth 20000 in
theorem hh_X7_fail_95 : scH Tx invX cc_X7_fail_95 := scCheck_ok (X := xx_X7_fail_95) (nodes := []) (fuel := 4000) ⟨lqX7, fa_nil⟩ dtX7_fail (by decide +kernel)
abbrev cc_X7_fail_96 : scC := (qX7_fail, 0, [((-2147483648), 2147483647), ((-2147483648), 2147483647), (1, 3)], [.inr (.inr (.inl [1])), .inl (some 0, 0), .inl (some 1, 0)], [((1, 4), (some 2, 0))], [(1, (0, 0), [], [], [((1, 4), (1, 3))])], [])
set_option maxRecDepth 20000 in
abbrev xx_X7_fail_96 : scX := (Tx, invX, lnX7, [], cc_X7_fail_96)
set_option maxRecDepth 20000 in
theorem hh_X7_fail_96 : scH Tx invX cc_X7_fail_96 := scCheck_ok (X := xx_X7_fail_96) (nodes := []) (fuel := 4000) ⟨lqX7, fa_nil⟩ dtX7_fail (by decide +kernel)
