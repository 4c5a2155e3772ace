abbrev cc_X11_puts_81 : scC := (qX11_puts, 0, [(0, 200)], [.inr (.inr (.inl [0])), .inr (.inr (.inl [519, 520, 521])), .inl (some 0, 0), .inl (none, 0)], [((0, 35), (none, 81))], [(1, (0, 200), [], [], [((0, 35), (82, 82))])], [(0, 35, 1), (519, 81, 1), (520, 81, 1), (521, 81, 1)])
set_option maxRecDepth 20000 in
abbrev xx_X11_puts_81 : scX := (Tm, invM, lnX11, [], cc_X11_puts_81)
set_option maxRecDepth 20000 in
theorem hh_X11_puts_81 : scH Tm invM cc_X11_puts_81 := scCheck_ok (X := xx_X11_puts_81) (nodes := []) (fuel := 4000) ⟨lqX11, fa_nil⟩ dtX11_puts (by decide +kernel)
abbrev cc_X11_puts_82 : scC := (qX11_puts, 0, [((-2147483648), 2147483647)], [.inr (.inr (.inl [0])), .inr (.inr (.inl [519, 520, 521])), .inl (some 0, 0), .inl (none, 0)], [((0, 35), (none, 82))], [(1, ((-2147483648), 2147483647), [], [], [((0, 35), (83, 83))])], [(0, 35, 1), (519, 82, 1), (520, 82, 1), (521, 82, 1)])
set_option maxRecDepth 20000 in
abbrev xx_X11_puts_82 : scX := (Tm, invM, lnX11, [], cc_X11_puts_82)
set_option maxRecDepth 20000 in
theorem hh_X11_puts_82 : scH Tm invM cc_X11_puts_82 := scCheck_ok (X := xx_X11_puts_82) (nodes := []) (fuel := 4000) ⟨lqX11, fa_nil⟩ dtX11_puts (by decide +kernel)
abbrev cc_X11_puts_83 : scC := (qX11_puts, 0, [((-2147483648), 2147483647)], [.inr (.inr (.inl [0])), .inr (.inr (.inl [519, 520, 521])), .inl (some 0, 0), .inl (none, 0)], [((0, 35), (none, 83))], [(1, ((-2147483648), 2147483647), [], [], [((0, 35), (84, 84))])], [(0, 35, 1), (519, 83, 1), (520, 83, 1), (521, 83, 1)])
set_option maxRecDepth 20000 in
abbrev xx_X11_puts_83 : scX := (Tm, invM, lnX11, [], cc_X11_puts_83)
set_option maxRecDepth 20000 in
theorem hh_X11_puts_83 : scH Tm invM cc_X11_puts_83 := scCheck_ok (X := xx_X11_puts_83) (nodes := []) (fuel := 4000) ⟨lqX11, fa_nil⟩ dtX11_puts (by decide +kernel)
abbrev cc_X11_puts_84 : scC := (qX11_puts, 0, [((-2147483648), 2147483647)], [.inr (.inr (.inl [0])), .inr (.inr (.inl [519, 520, 521])), .inl (some 0, 0), .inl (none, 0)], [((0, 35), (none, 84))], [(1, ((-2147483648), 2147483647), [], [], [((0, 35), (85, 85))])], [(0, 35, 1), (519, 84, 1), (520, 84, 1), (521, 84, 1)])
set_option maxRecDepth 20000 in
abbrev xx_X11_puts_84 : scX := (Tm, invM, lnX11, [], cc_X11_puts_84)
set_option maxRecDepth 20000 in
theorem hh_X11_puts_84 : scH Tm invM cc_X11_puts_84 := scCheck_ok (X := xx_X11_puts_84) (nodes := []) (fuel := 4000) ⟨lqX11, fa_nil⟩ dtX11_puts (by decide +kernel)
abbrev cc_X11_puts_85 : scC := (qX11_puts, 0, [((-2147483648), 2147483647)], [.inr (.inr (.inl [0])), .inr (.inr (.inl [519, 520, 521])), .inl (some 0, 0), .inl (none, 0)], [((0, 35), (none, 85))], [(1, ((-2147483648), 2147483647), [], [], [((0, 35), (86, 86))])], [(0, 35, 1), (519, 85, 1), (520, 85, 1), (521, 85, 1)])
set_option maxRecDepth 20000 in
abbrev xx_X11_puts_85 : scX := (Tm, invM, lnX11, [], cc_X11_puts_85)
set_option maxRecDepth 20000 in
theorem hh_X11_puts_85 : scH Tm invM cc_X11_puts_85 := scCheck_ok (X := xx_X11_puts_85) (nodes := []) (fuel := 4000) ⟨lqX11, fa_nil⟩ dtX11_puts (by decide +kernel)
abbrev cc_X11_puts_86 : scC := (qX11_puts, 0, [((-1000), 200)], [.inr (.inr (.inl [0])), .inr (.inr (.inl [519, 520, 521])), .inl (some 0, 0), .inl (none, 0)], [((0, 35), (none, 86))], [(1, ((-1000), 200), [], [], [((0, 35), (87, 87))])], [(0, 35, 1), (519, 86, 1), (520, 86, 1), (521, 86, 1)])
set_option maxRecDepth 20000 in
abbrev xx_X11_puts_86 : scX := (Tm, invM, lnX11, [], cc_X11_puts_86)
set_option maxRecDepth 20000 in
theorem hh_X11_puts_86 : scH Tm invM cc_X11_puts_86 := scCheck_ok (X := xx_X11_puts_86) (nodes := []) (fuel := 4000) ⟨lqX11, fa_nil⟩ dtX11_puts (by decide +kernel)
abbrev cc_X11_puts_87 : scC := (qX11_puts, 0, [((-1000), 200)], [.inr (.inr (.inl [0])), .inr (.inr (.inl [519, 520, 521])), .inl (some 0, 0), .inl (none, 0)], [((0, 35), (none, 87))], [(1, ((-1000), 200), [], [], [((0, 35), (88, 88))])], [(0, 35, 1), (519, 87, 1), (520, 87, 1), (521, 87, 1)])
set_option maxRecDepth 20000 in
abbrev xx_X11_puts_87 : scX := (Tm, invM, lnX11, [], cc_X11_puts_87)
set_option maxRecDepth 20000 in
theorem hh_X11_puts_87 : scH Tm invM cc_X11_puts_87 := scCheck_ok (X := xx_X11_puts_87) (nodes := []) (fuel := 4000) ⟨lqX11, fa_nil⟩ dtX11_puts (by decide +kernel)
abbrev cc_X11_puts_88 : scC := (qX11_puts, 0, [((-1000), 200)], [.inr (.inr (.inl [0])), .inr (.inr (.inl [519, 520, 521])), .inl (some 0, 0), .inl (none, 0)], [((0, 35), (none, 88))], [(1, ((-1000), 200), [], [], [((0, 35), (89, 89))])], [(0, 35, 1), (519, 88, 1), (520, 88, 1), (521, 88, 1)])
set_option maxRecDepth 20000 in
abbrev xx_X11_puts_88 : scX := (Tm, invM, lnX11, [], cc_X11_puts_88)
set_option maxRecDepth 20000 in
theorem hh_X11_puts_88 : scH Tm invM cc_X11_puts_88 := scCheck_ok (X := xx_X11_puts_88) (nodes := []) (fuel := 4000) ⟨lqX11, fa_nil⟩ dtX11_puts (by decide +kernel)
abbrev cc_X11_puts_89 : scC := (qX11_puts, 0, [((-1000), 200)], [.inr (.inr (.inl [0])), .inr (.inr (.inl [519, 520, 521])), .inl (some 0, 0), .inl (none, 0)], [((0, 35), (none, 89))], [(1, ((-1000), 200), [], [], [((0, 35), (90, 90))])], [(0, 35, 1), (519, 89, 1), (520, 89, 1), (521, 89, 1)])
set_option maxRecDepth 20000 in
abbrev xx_X11_puts_89 : scX := (Tm, invM, lnX11, [], cc_X11_puts_89)
set_option maxRecDepth 20000 in
theorem hh_X11_puts_89 : scH Tm invM cc_X11_puts_89 := scCheck_ok (X := xx_X11_puts_89) (nodes := []) (fuel := 4000) ⟨lqX11, fa_nil⟩ dtX11_puts (by decide +kernel)
abbrev cc_X11_puts_90 : scC := (qX11_puts, 0, [((-1000), 200)], [.inr (.inr (.inl [0])), .inr (.inr (.inl [519, 520, 521])), .inl (some 0, 0), .inl (none, 0)], [((0, 35), (none, 90))], [(1, ((-1000), 200), [], [], [((0, 35), (91, 91))])], [(0, 35, 1), (519, 90, 1), (520, 90, 1), (521, 90, 1)])
set_option maxRecDepth 20000 in
abbrev xx_X11_puts_90 : scX := (Tm, invM, lnX11, [], cc_X11_puts_90)
set_option maxRecDepth 20000 in
theorem hh_X11_puts_90 : scH Tm invM cc_X11_puts_90 := scCheck_ok (X := xx_X11_puts_90) (nodes := []) (fuel := 4000) ⟨lqX11, fa_nil⟩ dtX11_puts (by decide +kernel)
abbrev cc_X11_puts_91 : scC := (qX11_puts, 0, [((-1000), 200)], [.inr (.inr (.inl [0])), .inr (.inr (.inl [519, 520, 521])), .inl (some 0, 0), .inl (none, 0)], [((0, 35), (none, 91))], [(1, ((-1000), 200), [], [], [((0, 35), (92, 92))])], [(0, 35, 1), (519, 91, 1), (520, 91, 1), (521, 91, 1)])
set_option maxRecDepth 20000 in
abbrev xx_X11_puts_91 : scX := (Tm, invM, lnX11, [], cc_X11_puts_91)
set_option maxRecDepth 20000 in
theorem hh_X11_puts_91 : scH Tm invM cc_X11_puts_91 := scCheck_ok (X := xx_X11_puts_91) (nodes := []) (fuel := 4000) ⟨lqX11, fa_nil⟩ dtX11_puts (by decide +kernel)
abbrev cc_X11_puts_92 : scC := (qX11_puts, 0, [((-1000), 200)], [.inr (.inr (.inl [0])), .inr (.inr (.inl [519, 520, 521])), .inl (some 0, 0), .inl (none, 0)], [((0, 35), (none, 92))], [(1, ((-1000), 200), [], [], [((0, 35), (93, 93))])], [(0, 35, 1), (519, 92, 1), (520, 92, 1), (521, 92, 1)])
set_option maxRecDepth 20000 in
abbrev xx_X11_puts_92 : scX := (Tm, invM, lnX11, [], cc_X11_puts_92)
set_option maxRecDepth 20000 in
theorem hh_X11_puts_92 : scH Tm invM cc_X11_puts_92 := scCheck_ok (X := xx_X11_puts_92) (nodes := []) (fuel := 4000) ⟨lqX11, fa_nil⟩ dtX11_puts (by decide +kernel)
abbrev cc_X11_puts_93 : scC := (qX11_puts, 0, [((-1000), 200)], [.inr (.inr (.inl [0])), .inr (.inr (.inl [519, 520, 521])), .inl (some 0, 0), .inl (none, 0)], [((0, 35), (none, 93))], [(1, ((-1000), 200), [], [], [((0, 35), (94, 94))])], [(0, 35, 1), (519, 93, 1), (520, 93, 1), (521, 93, 1)])
set_option maxRecDepth 20000 in
abbrev xx_X11_puts_93 : scX := (Tm, invM, lnX11, [], cc_X11_puts_93)
set_option maxRecDepth 20000 in
theorem hh_X11_puts_93 : scH Tm invM cc_X11_puts_93 := scCheck_ok (X := xx_X11_puts_93) (nodes := []) (fuel := 4000) ⟨lqX11, fa_nil⟩ dtX11_puts (by decide +kernel)
abbrev cc_X11_puts_94 : scC := (qX11_puts, 0, [(0, 12)], [.inr (.inr (.inl [0])), .inr (.inr (.inl [519, 520, 521])), .inl (some 0, 0), .inl (none, 0)], [((0, 35), (none, 94))], [(1, (0, 12), [], [], [((0, 35), (95, 95))])], [(0, 35, 1), (519, 94, 1), (520, 94, 1), (521, 94, 1)])
set_option maxRecDepth 20000 in
abbrev xx_X11_puts_94 : scX := (Tm, invM, lnX11, [], cc_X11_puts_94)
set_option maxRecDepth 20000 in
theorem hh_X11_puts_94 : scH Tm invM cc_X11_puts_94 := scCheck_ok (X := xx_X11_puts_94) (nodes := []) (fuel := 4000) ⟨lqX11, fa_nil⟩ dtX11_puts (by decide +kernel)
abbrev cc_X11_puts_95 : scC := (qX11_puts, 0, [(0, 200)], [.inr (.inr (.inl [0])), .inr (.inr (.inl [519, 520, 521])), .inl (some 0, 0), .inl (none, 0)], [((0, 35), (none, 95))], [(1, (0, 200), [], [], [((0, 35), (96, 96))])], [(0, 35, 1), (519, 95, 1), (520, 95, 1), (521, 95, 1)])
set_option maxRecDepth 20000 in
abbrev xx_X11_puts_95 : scX := (Tm, invM, lnX11, [], cc_X11_puts_95)
set_option maxRecDepth 20000 in
theorem hh_X11_puts_95 : scH Tm invM cc_X11_puts_95 := scCheck_ok (X := xx_X11_puts_95) (nodes := []) (fuel := 4000) ⟨lqX11, fa_nil⟩ dtX11_puts (by decide +kernel)
abbrev cc_X11_puts_96 : scC := (qX11_puts, 0, [((-2147483648), 2147483647)], [.inr (.inr (.inl [0])), .inr (.inr (.inl [519, 520, 521])), .inl (some 0, 0), .inl (none, 0)], [((0, 35), (none, 96))], [(1, ((-2147483648), 2147483647), [], [], [((0, 35), (97, 97))])], [(0, 35, 1), (519, 96, 1), (520, 96, 1), (521, 96, 1)])
set_option maxRecDepth 20000 in
abbrev xx_X11_puts_96 : scX := (Tm, invM, lnX11, [], cc_X11_puts_96)
set_option maxRecDepth 20000 in
theorem hh_X11_puts_96 : scH Tm invM cc_X11_puts_96 := scCheck_ok (X := xx_X11_puts_96) (nodes := []) (fuel := 4000) ⟨lqX11, fa_nil⟩ dtX11_puts (by decide +kernel)
abbrev cc_X11_puts_97 : scC := (qX11_puts, 0, [((-2147483648), 2147483647)], [.inr (.inr (.inl [0])), .inr (.inr (.inl [519, 520, 521])), .inl (some 0, 0), .inl (none, 0)], [((0, 35), (none, 97))], [(1, ((-2147483648), 2147483647), [], [], [((0, 35), (98, 98))])], [(0, 35, 1), (519, 97, 1), (520, 97, 1), (521, 97, 1)])
set_option maxRecDepth 20000 in
abbrev xx_X11_puts_97 : scX := (Tm, invM, lnX11, [], cc_X11_puts_97)
set_option maxRecDepth 20000 in
theorem hh_X11_puts_97 : scH Tm invM cc_X11_puts_97 := scCheck_ok (X := xx_X11_puts_97) (nodes := []) (fuel := 4000) ⟨lqX11, fa_nil⟩ dtX11_puts (by decide +kernel)
abbrev cc_X11_puts_98 : scC := (qX11_puts, 0, [((-2147483648), 2147483647)], [.inr (.inr (.inl [0])), .inr (.inr (.inl [519, 520, 521])), .inl (some 0, 0), .inl (none, 0)], [((0, 35), (none, 98))], [(1, ((-2147483648), 2147483647), [], [], [((0, 35), (99, 99))])], [(0, 35, 1), (519, 98, 1), (520, 98, 1), (521, 98, 1)])
set_option maxRecDepth 20000 in
abbrev xx_X11_puts_98 : scX := (Tm, invM, lnX11, [], cc_X11_puts_98)
set_option maxRecDepth 20000 in
theorem hh_X11_puts_98 : scH Tm invM cc_X11_puts_98 := scCheck_ok (X := xx_X11_puts_98) (nodes := []) (fuel := 4000) ⟨lqX11, fa_nil⟩ dtX11_puts (by decide +kernel)
abbrev cc_X11_puts_99 : scC := (qX11_puts, 0, [((-2147483648), 2147483647)], [.inr (.inr (.inl [0])), .inr (.inr (.inl [519, 520, 521])), .inl (some 0, 0), .inl (none, 0)], [((0, 35), (none, 99))], [(1, ((-2147483648), 2147483647), [], [], [((0, 35), (100, 100))])], [(0, 35, 1), (519, 99, 1), (520, 99, 1), (521, 99, 1)])
set_option maxRecDepth 20000 in
abbrev xx_X11_puts_99 : scX := (Tm, invM, lnX11, [], cc_X11_puts_99)
set_option maxRecDepth 20000 in
theorem hh_X11_puts_99 : scH Tm invM cc_X11_puts_99 := scCheck_ok (X := xx_X11_puts_99) (nodes := []) (fuel := 4000) ⟨lqX11, fa_nil⟩ dtX11_puts (by decide +kernel)
abbrev cc_X11_puts_100 : scC := (qX11_puts, 0, [((-1000), 200)], [.inr (.inr (.inl [0])), .inr (.inr (.inl [519, 520, 521])), .inl (some 0, 0), .inl (none, 0)], [((0, 35), (none, 100))], [(1, ((-1000), 200), [], [], [((0, 35), (101, 101))])], [(0, 35, 1), (519, 100, 1), (520, 100, 1), (521, 100, 1)])
set_option maxRecDepth 20000 in
abbrev xx_X11_puts_100 : scX := (Tm, invM, lnX11, [], cc_X11_puts_100)
set_option maxRecDepth 20000 in
theorem hh_X11_puts_100 : scH Tm invM cc_X11_puts_100 := scCheck_ok (X := xx_X11_puts_100) (nodes := []) (fuel := 4000) ⟨lqX11, fa_nil⟩ dtX11_puts (by decide +kernel)
abbrev cc_X11_puts_101 : scC := (qX11_puts, 0, [((-1000), 200)], [.inr (.inr (.inl [0])), .inr (.inr (.inl [519, 520, 521])), .inl (some 0, 0), .inl (none, 0)], [((0, 35), (none, 101))], [(1, ((-1000), 200), [], [], [((0, 35), (102, 102))])], [(0, 35, 1), (519, 101, 1), (520, 101, 1), (521, 101, 1)])
set_option maxRecDepth 20000 in
abbrev xx_X11_puts_101 : scX := (Tm, invM, lnX11, [], cc_X11_puts_101)
set_option maxRecDepth 20000 in
theorem hh_X11_puts_101 : scH Tm invM cc_X11_puts_101 := scCheck_ok (X := xx_X11_puts_101) (nodes := []) (fuel := 4000) ⟨lqX11, fa_nil⟩ dtX11_puts (by decide +kernel)
abbrev cc_X11_puts_102 : scC := (qX11_puts, 0, [((-1000), 200)], [.inr (.inr (.inl [0])), .inr (.inr (.inl [519, 520, 521])), .inl (some 0, 0), .inl (none, 0)], [((0, 35), (none, 102))], [(1, ((-1000), 200), [], [], [((0, 35), (103, 103))])], [(0, 35, 1), (519, 102, 1), (520, 102, 1), (521, 102, 1)])
set_option maxRecDepth 20000 in
abbrev xx_X11_puts_102 : scX := (Tm, invM, lnX11, [], cc_X11_puts_102)
set_option maxRecDepth 20000 in
theorem hh_X11_puts_102 : scH Tm invM cc_X11_puts_102 := scCheck_ok (X := xx_X11_puts_102) (nodes := []) (fuel := 4000) ⟨lqX11, fa_nil⟩ dtX11_puts (by decide +kernel)
abbrev cc_X11_puts_103 : scC := (qX11_puts, 0, [((-1000), 200)], [.inr (.inr (.inl [0])), .inr (.inr (.inl [519, 520, 521])), .inl (some 0, 0), .inl (none, 0)], [((0, 35), (none, 103))], [(1, ((-1000), 200), [], [], [((0, 35), (104, 104))])], [(0, 35, 1), (519, 103, 1), (520, 103, 1), (521, 103, 1)])
set_option maxRecDepth 20000 in
abbrev xx_X11_puts_103 : scX := (Tm, invM, lnX11, [], cc_X11_puts_103)
set_option maxRecDepth 20000 in
theorem hh_X11_puts_103 : scH Tm invM cc_X11_puts_103 := scCheck_ok (X := xx_X11_puts_103) (nodes := []) (fuel := 4000) ⟨lqX11, fa_nil⟩ dtX11_puts (by decide +kernel)
abbrev cc_X11_puts_104 : scC := (qX11_puts, 0, [((-1000), 200)], [.inr (.inr (.inl [0])), .inr (.inr (.inl [519, 520, 521])), .inl (some 0, 0), .inl (none, 0)], [((0, 35), (none, 104))], [(1, ((-1000), 200), [], [], [((0, 35), (105, 105))])], [(0, 35, 1), (519, 104, 1), (520, 104, 1), (521, 104, 1)])
set_option maxRecDepth 20000 in
abbrev xx_X11_puts_104 : scX := (Tm, invM, lnX11, [], cc_X11_puts_104)
set_option maxRecDepth 20000 in
theorem hh_X11_puts_104 : scH Tm invM cc_X11_puts_104 := scCheck_ok (X := xx_X11_puts_104) (nodes := []) (fuel := 4000) ⟨lqX11, fa_nil⟩ dtX11_puts (by decide +kernel)
abbrev cc_X11_puts_105 : scC := (qX11_puts, 0, [((-1000), 200)], [.inr (.inr (.inl [0])), .inr (.inr (.inl [519, 520, 521])), .inl (some 0, 0), .inl (none, 0)], [((0, 35), (none, 105))], [(1, ((-1000), 200), [], [], [((0, 35), (106, 106))])], [(0, 35, 1), (519, 105, 1), (520, 105, 1), (521, 105, 1)])
set_option maxRecDepth 20000 in
abbrev xx_X11_puts_105 : scX := (Tm, invM, lnX11, [], cc_X11_puts_105)
set_option maxRecDepth 20000 in
theorem hh_X11_puts_105 : scH Tm invM cc_X11_puts_105 := scCheck_ok (X := xx_X11_puts_105) (nodes := []) (fuel := 4000) ⟨lqX11, fa_nil⟩ dtX11_puts (by decide +kernel)
abbrev cc_X11_puts_106 : scC := (qX11_puts, 0, [((-1000), 200)], [.inr (.inr (.inl [0])), .inr (.inr (.inl [519, 520, 521])), .inl (some 0, 0), .inl (none, 0)], [((0, 35), (none, 106))], [(1, ((-1000), 200), [], [], [((0, 35), (107, 107))])], [(0, 35, 1), (519, 106, 1), (520, 106, 1), (521, 106, 1)])
set_option maxRecDepth 20000 in
abbrev xx_X11_puts_106 : scX := (Tm, invM, lnX11, [], cc_X11_puts_106)
set_option maxRecDepth 20000 in
theorem hh_X11_puts_106 : scH Tm invM cc_X11_puts_106 := scCheck_ok (X := xx_X11_puts_106) (nodes := []) (fuel := 4000) ⟨lqX11, fa_nil⟩ dtX11_puts (by decide +kernel)
abbrev cc_X11_puts_107 : scC := (qX11_puts, 0, [((-1000), 200)], [.inr (.inr (.inl [0])), .inr (.inr (.inl [519, 520, 521])), .inl (some 0, 0), .inl (none, 0)], [((0, 35), (none, 107))], [(1, ((-1000), 200), [], [], [((0, 35), (108, 108))])], [(0, 35, 1), (519, 107, 1), (520, 107, 1), (521, 107, 1)])
set_option maxRecDepth 20000 in
abbrev xx_X11_puts_107 : scX := (Tm, invM, lnX11, [], cc_X11_puts_107)
set_option maxRecDepth 20000 in
theorem hh_X11_puts_107 : scH Tm invM cc_X11_puts_107 := scCheck_ok (X := xx_X11_puts_107) (nodes := []) (fuel := 4000) ⟨lqX11, fa_nil⟩ dtX11_puts (by decide +kernel)
abbrev cc_X11_puts_108 : scC := (qX11_puts, 0, [(0, 12)], [.inr (.inr (.inl [0])), .inr (.inr (.inl [519, 520, 521])), .inl (some 0, 0), .inl (none, 0)], [((0, 35), (none, 108))], [(1, (0, 12), [], [], [((0, 35), (109, 109))])], [(0, 35, 1), (519, 108, 1), (520, 108, 1), (521, 108, 1)])
set_option maxRecDepth 20000 in
abbrev xx_X11_puts_108 : scX := (Tm, invM, lnX11, [], cc_X11_puts_108)
set_option maxRecDepth 20000 in
theorem hh_X11_puts_108 : scH Tm invM cc_X11_puts_108 := scCheck_ok (X := xx_X11_puts_108) (nodes := []) (fuel := 4000) ⟨lqX11, fa_nil⟩ dtX11_puts (by decide +kernel)
abbrev cc_X11_puts_109 : scC := (qX11_puts, 0, [(0, 200)], [.inr (.inr (.inl [0])), .inr (.inr (.inl [519, 520, 521])), .inl (some 0, 0), .inl (none, 0)], [((0, 35), (none, 109))], [(1, (0, 200), [], [], [((0, 35), (110, 110))])], [(0, 35, 1), (519, 109, 1), (520, 109, 1), (521, 109, 1)])
set_option maxRecDepth 20000 in
abbrev xx_X11_puts_109 : scX := (Tm, invM, lnX11, [], cc_X11_puts_109)
set_option maxRecDepth 20000 in
theorem hh_X11_puts_109 : scH Tm invM cc_X11_puts_109 := scCheck_ok (X := xx_X11_puts_109) (nodes := []) (fuel := 4000) ⟨lqX11, fa_nil⟩ dtX11_puts (by decide +kernel)
abbrev cc_X11_puts_110 : scC := (qX11_puts, 0, [((-2147483648), 2147483647)], [.inr (.inr (.inl [0])), .inr (.inr (.inl [519, 520, 521])), .inl (some 0, 0), .inl (none, 0)], [((0, 35), (none, 110))], [(1, ((-2147483648), 2147483647), [], [], [((0, 35), (111, 111))])], [(0, 35, 1), (519, 110, 1), (520, 110, 1), (521, 110, 1)])
set_option maxRecDepth 20000 in
abbrev xx_X11_puts_110 : scX := (Tm, invM, lnX11, [], cc_X11_puts_110)
set_option maxRecDepth 20000 in
theorem hh_X11_puts_110 : scH Tm invM cc_X11_puts_110 := scCheck_ok (X := xx_X11_puts_110) (nodes := []) (fuel := 4000) ⟨lqX11, fa_nil⟩ dtX11_puts (by decide +kernel)
abbrev cc_X11_puts_111 : scC := (qX11_puts, 0, [((-2147483648), 2147483647)], [.inr (.inr (.inl [0])), .inr (.inr (.inl [519, 520, 521])), .inl (some 0, 0), .inl (none, 0)], [((0, 35), (none, 111))], [(1, ((-2147483648), 2147483647), [], [], [((0, 35), (112, 112))])], [(0, 35, 1), (519, 111, 1), (520, 111, 1), (521, 111, 1)])
set_option maxRecDepth 20000 in
abbrev xx_X11_puts_111 : scX := (Tm, invM, lnX11, [], cc_X11_puts_111)
set_option maxRecDepth 20000 in
theorem hh_X11_puts_111 : scH Tm invM cc_X11_puts_111 := scCheck_ok (X := xx_X11_puts_111) (nodes := []) (fuel := 4000) ⟨lqX11, fa_nil⟩ dtX11_puts (by decide +kernel)
abbrev cc_X11_puts_112 : scC := (qX11_puts, 0, [((-2147483648), 2147483647)], [.inr (.inr (.inl [0])), .inr (.inr (.inl [519, 520, 521])), .inl (some 0, 0), .inl (none, 0)], [((0, 35), (none, 112))], [(1, ((-2147483648), 2147483647), [], [], [((0, 35), (113, 113))])], [(0, 35, 1), (519, 112, 1), (520, 112, 1), (521, 112, 1)])
set_option maxRecDepth 20000 in
abbrev xx_X11_puts_112 : scX := (Tm, invM, lnX11, [], cc_X11_puts_112)
set_option maxRecDepth 20000 in
theorem hh_X11_puts_112 : scH Tm invM cc_X11_puts_112 := scCheck_ok (X := xx_X11_puts_112) (nodes := []) (fuel := 4000) ⟨lqX11, fa_nil⟩ dtX11_puts (by decide +kernel)
abbrev cc_X11_puts_113 : scC := (qX11_puts, 0, [((-2147483648), 2147483647)], [.inr (.inr (.inl [0])), .inr (.inr (.inl [519, 520, 521])), .inl (some 0, 0), .inl (none, 0)], [((0, 35), (none, 113))], [(1, ((-2147483648), 2147483647), [], [], [((0, 35), (114, 114))])], [(0, 35, 1), (519, 113, 1), (520, 113, 1), (521, 113, 1)])
set_option maxRecDepth 20000 in
abbrev xx_X11_puts_113 : scX := (Tm, invM, lnX11, [], cc_X11_puts_113)
set_option maxRecDepth 20000 in
theorem hh_X11_puts_113 : scH Tm invM cc_X11_puts_113 := scCheck_ok (X := xx_X11_puts_113) (nodes := []) (fuel := 4000) ⟨lqX11, fa_nil⟩ dtX11_puts (by decide +kernel)
abbrev cc_X11_puts_114 : scC := (qX11_puts, 0, [((-1000), 200)], [.inr (.inr (.inl [0])), .inr (.inr (.inl [519, 520, 521])), .inl (some 0, 0), .inl (none, 0)], [((0, 35), (none, 114))], [(1, ((-1000), 200), [], [], [((0, 35), (115, 115))])], [(0, 35, 1), (519, 114, 1), (520, 114, 1), (521, 114, 1)])
set_option maxRecDepth 20000 in
abbrev xx_X11_puts_114 : scX := (Tm, invM, lnX11, [], cc_X11_puts_114)
set_option maxRecDepth 20000 in
theorem hh_X11_puts_114 : scH Tm invM cc_X11_puts_114 := scCheck_ok (X := xx_X11_puts_114) (nodes := []) (fuel := 4000) ⟨lqX11, fa_nil⟩ dtX11_puts (by decide +kernel)
abbrev cc_X11_puts_115 : scC := (qX11_puts, 0, [((-1000), 200)], [.inr (.inr (.inl [0])), .inr (.inr (.inl [519, 520, 521])), .inl (some 0, 0), .inl (none, 0)], [((0, 35), (none, 115))], [(1, ((-1000), 200), [], [], [((0, 35), (116, 116))])], [(0, 35, 1), (519, 115, 1), (520, 115, 1), (521, 115, 1)])
set_option maxRecDepth 20000 in
abbrev xx_X11_puts_115 : scX := (Tm, invM, lnX11, [], cc_X11_puts_115)
set_option maxRecDepth 20000 in
theorem hh_X11_puts_115 : scH Tm invM cc_X11_puts_115 := scCheck_ok (X := xx_X11_puts_115) (nodes := []) (fuel := 4000) ⟨lqX11, fa_nil⟩ dtX11_puts (by decide +kernel)
abbrev cc_X11_puts_116 : scC := (qX11_puts, 0, [((-1000), 200)], [.inr (.inr (.inl [0])), .inr (.inr (.inl [519, 520, 521])), .inl (some 0, 0), .inl (none, 0)], [((0, 35), (none, 116))], [(1, ((-1000), 200), [], [], [((0, 35), (117, 117))])], [(0, 35, 1), (519, 116, 1), (520, 116, 1), (521, 116, 1)])
set_option maxRecDepth 20000 in
abbrev xx_X11_puts_116 : scX := (Tm, invM, lnX11, [], cc_X11_puts_116)
set_option maxRecDepth 20000 in
theorem hh_X11_puts_116 : scH Tm invM cc_X11_puts_116 := scCheck_ok (X := xx_X11_puts_116) (nodes := []) (fuel := 4000) ⟨lqX11, fa_nil⟩ dtX11_puts (by decide +kernel)
abbrev cc_X11_puts_117 : scC := (qX11_puts, 0, [((-1000), 200)], [.inr (.inr (.inl [0])), .inr (.inr (.inl [519, 520, 521])), .inl (some 0, 0), .inl (none, 0)], [((0, 35), (none, 117))], [(1, ((-1000), 200), [], [], [((0, 35), (118, 118))])], [(0, 35, 1), (519, 117, 1), (520, 117, 1), (521, 117, 1)])
set_option maxRecDepth 20000 in
abbrev xx_X11_puts_117 : scX := (Tm, invM, lnX11, [], cc_X11_puts_117)
set_option maxRecDepth 20000 in
theorem hh_X11_puts_117 : scH Tm invM cc_X11_puts_117 := scCheck_ok (X := xx_X11_puts_117) (nodes := []) (fuel := 4000) ⟨lqX11, fa_nil⟩ dtX11_puts (by decide +kernel)
abbrev cc_X11_puts_118 : scC := (qX11_puts, 0, [((-1000), 200)], [.inr (.inr (.inl [0])), .inr (.inr (.inl [519, 520, 521])), .inl (some 0, 0), .inl (none, 0)], [((0, 35), (none, 118))], [(1, ((-1000), 200), [], [], [((0, 35), (119, 119))])], [(0, 35, 1), (519, 118, 1), (520, 118, 1), (521, 118, 1)])
set_option maxRecDepth 20000 in
abbrev xx_X11_puts_118 : scX := (Tm, invM, lnX11, [], cc_X11_puts_118)
set_option maxRecDepth 20000 in
theorem hh_X11_puts_118 : scH Tm invM cc_X11_puts_118 := scCheck_ok (X := xx_X11_puts_118) (nodes := []) (fuel := 4000) ⟨lqX11, fa_nil⟩ dtX11_puts (by decide +kernel)
abbrev cc_X11_puts_119 : scC := (qX11_puts, 0, [((-1000), 200)], [.inr (.inr (.inl [0])), .inr (.inr (.inl [519, 520, 521])), .inl (some 0, 0), .inl (none, 0)], [((0, 35), (none, 119))], [(1, ((-1000), 200), [], [], [((0, 35), (120, 120))])], [(0, 35, 1), (519, 119, 1), (520, 119, 1), (521, 119, 1)])
set_option maxRecDepth 20000 in
abbrev xx_X11_puts_119 : scX := (Tm, invM, lnX11, [], cc_X11_puts_119)
set_option maxRecDepth 20000 in
theorem hh_X11_puts_119 : scH Tm invM cc_X11_puts_119 := scCheck_ok (X := xx_X11_puts_119) (nodes := []) (fuel := 4000) ⟨lqX11, fa_nil⟩ dtX11_puts (by decide +kernel)
abbrev cc_X11_puts_120 : scC := (qX11_puts, 0, [((-1000), 200)], [.inr (.inr (.inl [0])), .inr (.inr (.inl [519, 520, 521])), .inl (some 0, 0), .inl (none, 0)], [((0, 35), (none, 120))], [(1, ((-1000), 200), [], [], [((0, 35), (121, 121))])], [(0, 35, 1), (519, 120, 1), (520, 120, 1), (521, 120, 1)])
set_option maxRecDepth 20000 in
abbrev xx_X11_puts_120 : scX := (Tm, invM, lnX11, [], cc_X11_puts_120)
set_option maxRecDepth 20000 in
theorem hh_X11_puts_120 : scH Tm invM cc_X11_puts_120 := scCheck_ok (X := xx_X11_puts_120) (nodes := []) (fuel := 4000) ⟨lqX11, fa_nil⟩ dtX11_puts (by decide +kernel)
abbrev cc_X11_puts_121 : scC := (qX11_puts, 0, [((-1000), 200)], [.inr (.inr (.inl [0])), .inr (.inr (.inl [519, 520, 521])), .inl (some 0, 0), .inl (none, 0)], [((0, 35), (none, 121))], [(1, ((-1000), 200), [], [], [((0, 35), (122, 122))])], [(0, 35, 1), (519, 121, 1), (520, 121, 1), (521, 121, 1)])
set_option maxRecDepth 20000 in
abbrev xx_X11_puts_121 : scX := (Tm, invM, lnX11, [], cc_X11_puts_121)
set_option maxRecDepth 20000 in
theorem hh_X11_puts_121 : scH Tm invM cc_X11_puts_121 := scCheck_ok (X := xx_X11_puts_121) (nodes := []) (fuel := 4000) ⟨lqX11, fa_nil⟩ dtX11_puts (by decide +kernel)
abbrev cc_X11_puts_122 : scC := (qX11_puts, 0, [(0, 12)], [.inr (.inr (.inl [0])), .inr (.inr (.inl [519, 520, 521])), .inl (some 0, 0), .inl (none, 0)], [((0, 35), (none, 122))], [(1, (0, 12), [], [], [((0, 35), (123, 123))])], [(0, 35, 1), (519, 122, 1), (520, 122, 1), (521, 122, 1)])
set_option maxRecDepth 20000 in
abbrev xx_X11_puts_122 : scX := (Tm, invM, lnX11, [], cc_X11_puts_122)
set_option maxRecDepth 20000 in
theorem hh_X11_puts_122 : scH Tm invM cc_X11_puts_122 := scCheck_ok (X := xx_X11_puts_122) (nodes := []) (fuel := 4000) ⟨lqX11, fa_nil⟩ dtX11_puts (by decide +kernel)
abbrev cc_X11_puts_123 : scC := (qX11_puts, 0, [(0, 200)], [.inr (.inr (.inl [0])), .inr (.inr (.inl [519, 520, 521])), .inl (some 0, 0), .inl (none, 0)], [((0, 35), (none, 123))], [(1, (0, 200), [], [], [((0, 35), (124, 124))])], [(0, 35, 1), (519, 123, 1), (520, 123, 1), (521, 123, 1)])
set_option maxRecDepth 20000 in
abbrev xx_X11_puts_123 : scX := (Tm, invM, lnX11, [], cc_X11_puts_123)
set_option maxRecDepth 20000 in
theorem hh_X11_puts_123 : scH Tm invM cc_X11_puts_123 := scCheck_ok (X := xx_X11_puts_123) (nodes := []) (fuel := 4000) ⟨lqX11, fa_nil⟩ dtX11_puts (by decide +kernel)
abbrev cc_X11_puts_124 : scC := (qX11_puts, 0, [((-2147483648), 2147483647)], [.inr (.inr (.inl [0])), .inr (.inr (.inl [519, 520, 521])), .inl (some 0, 0), .inl (none, 0)], [((0, 35), (none, 124))], [(1, ((-2147483648), 2147483647), [], [], [((0, 35), (125, 125))])], [(0, 35, 1), (519, 124, 1), (520, 124, 1), (521, 124, 1)])
set_option maxRecDepth 20000 in
abbrev xx_X11_puts_124 : scX := (Tm, invM, lnX11, [], cc_X11_puts_124)
set_option maxRecDepth 20000 in
theorem hh_X11_puts_124 : scH Tm invM cc_X11_puts_124 := scCheck_ok (X := xx_X11_puts_124) (nodes := []) (fuel := 4000) ⟨lqX11, fa_nil⟩ dtX11_puts (by decide +kernel)
abbrev cc_X11_puts_125 : scC := (qX11_puts, 0, [((-2147483648), 2147483647)], [.inr (.inr (.inl [0])), .inr (.inr (.inl [519, 520, 521])), .inl (some 0, 0), .inl (none, 0)], [((0, 35), (none, 125))], [(1, ((-2147483648), 2147483647), [], [], [((0, 35), (126, 126))])], [(0, 35, 1), (519, 125, 1), (520, 125, 1), (521, 125, 1)])
set_option maxRecDepth 20000 in
abbrev xx_X11_puts_125 : scX := (Tm, invM, lnX11, [], cc_X11_puts_125)
set_option maxRecDepth 20000 in
theorem hh_X11_puts_125 : scH Tm invM cc_X11_puts_125 := scCheck_ok (X := xx_X11_puts_125) (nodes := []) (fuel := 4000) ⟨lqX11, fa_nil⟩ dtX11_puts (by decide +kernel)
abbrev cc_X11_puts_126 : scC := (qX11_puts, 0, [((-2147483648), 2147483647)], [.inr (.inr (.inl [0])), .inr (.inr (.inl [519, 520, 521])), .inl (some 0, 0), .inl (none, 0)], [((0, 35), (none, 126))], [(1, ((-2147483648), 2147483647), [], [], [((0, 35), (127, 127))])], [(0, 35, 1), (519, 126, 1), (520, 126, 1), (521, 126, 1)])
set_option maxRecDepth 20000 in
abbrev xx_X11_puts_126 : scX := (Tm, invM, lnX11, [], cc_X11_puts_126)
set_option maxRecDepth 20000 in
theorem hh_X11_puts_126 : scH Tm invM cc_X11_puts_126 := scCheck_ok (X := xx_X11_puts_126) (nodes := []) (fuel := 4000) ⟨lqX11, fa_nil⟩ dtX11_puts (by decide +kernel)
abbrev cc_X11_puts_127 : scC := (qX11_puts, 0, [((-2147483648), 2147483647)], [.inr (.inr (.inl [0])), .inr (.inr (.inl [519, 520, 521])), .inl (some 0, 0), .inl (none, 0)], [((0, 35), (none, 127))], [(1, ((-2147483648), 2147483647), [], [], [((0, 35), (128, 128))])], [(0, 35, 1), (519, 127, 1), (520, 127, 1), (521, 127, 1)])
set_option maxRecDepth 20000 in
abbrev xx_X11_puts_127 : scX := (Tm, invM, lnX11, [], cc_X11_puts_127)
set_option maxRecDepth 20000 in
theorem hh_X11_puts_127 : scH Tm invM cc_X11_puts_127 := scCheck_ok (X := xx_X11_puts_127) (nodes := []) (fuel := 4000) ⟨lqX11, fa_nil⟩ dtX11_puts (by decide +kernel)
abbrev cc_X11_puts_128 : scC := (qX11_puts, 0, [((-1000), 200)], [.inr (.inr (.inl [0])), .inr (.inr (.inl [519, 520, 521])), .inl (some 0, 0), .inl (none, 0)], [((0, 35), (none, 128))], [(1, ((-1000), 200), [], [], [((0, 35), (129, 129))])], [(0, 35, 1), (519, 128, 1), (520, 128, 1), (521, 128, 1)])
set_option maxRecDepth 20000 in
abbrev xx_X11_puts_128 : scX := (Tm, invM, lnX11, [], cc_X11_puts_128)
set_option maxRecDepth 20000 in
theorem hh_X11_puts_128 : scH Tm invM cc_X11_puts_128 := scCheck_ok (X := xx_X11_puts_128) (nodes := []) (fuel := 4000) ⟨lqX11, fa_nil⟩ dtX11_puts (by decide +kernel)
abbrev cc_X11_puts_129 : scC := (qX11_puts, 0, [((-1000), 200)], [.inr (.inr (.inl [0])), .inr (.inr (.inl [519, 520, 521])), .inl (some 0, 0), .inl (none, 0)], [((0, 35), (none, 129))], [(1, ((-1000), 200), [], [], [((0, 35), (130, 130))])], [(0, 35, 1), (519, 129, 1), (520, 129, 1), (521, 129, 1)])
set_option maxRecDepth 20000 in
abbrev xx_X11_puts_129 : scX := (Tm, invM, lnX11, [], cc_X11_puts_129)
set_option maxRecDepth 20000 in
theorem hh_X11_puts_129 : scH Tm invM cc_X11_puts_129 := scCheck_ok (X := xx_X11_puts_129) (nodes := []) (fuel := 4000) ⟨lqX11, fa_nil⟩ dtX11_puts (by decide +kernel)
abbrev cc_X11_puts_130 : scC := (qX11_puts, 0, [((-1000), 200)], [.inr (.inr (.inl [0])), .inr (.inr (.inl [519, 520, 521])), .inl (some 0, 0), .inl (none, 0)], [((0, 35), (none, 130))], [(1, ((-1000), 200), [], [], [((0, 35), (131, 131))])], [(0, 35, 1), (519, 130, 1), (520, 130, 1), (521, 130, 1)])
set_option maxRecDepth 20000 in
abbrev xx_X11_puts_130 : scX := (Tm, invM, lnX11, [], cc_X11_puts_130)
set_option maxRecDepth 20000 in
theorem hh_X11_puts_130 : scH Tm invM cc_X11_puts_130 := scCheck_ok (X := xx_X11_puts_130) (nodes := []) (fuel := 4000) ⟨lqX11, fa_nil⟩ dtX11_puts (by decide +kernel)
abbrev cc_X11_puts_131 : scC := (qX11_puts, 0, [((-1000), 200)], [.inr (.inr (.inl [0])), .inr (.inr (.inl [519, 520, 521])), .inl (some 0, 0), .inl (none, 0)], [((0, 35), (none, 131))], [(1, ((-1000), 200), [], [], [((0, 35), (132, 132))])], [(0, 35, 1), (519, 131, 1), (520, 131, 1), (521, 131, 1)])
set_option maxRecDepth 20000 in
abbrev xx_X11_puts_131 : scX := (Tm, invM, lnX11, [], cc_X11_puts_131)
set_option maxRecDepth 20000 in
theorem hh_X11_puts_131 : scH Tm invM cc_X11_puts_131 := scCheck_ok (X := xx_X11_puts_131) (nodes := []) (fuel := 4000) ⟨lqX11, fa_nil⟩ dtX11_puts (by decide +kernel)
abbrev cc_X11_puts_132 : scC := (qX11_puts, 0, [((-1000), 200)], [.inr (.inr (.inl [0])), .inr (.inr (.inl [519, 520, 521])), .inl (some 0, 0), .inl (none, 0)], [((0, 35), (none, 132))], [(1, ((-1000), 200), [], [], [((0, 35), (133, 133))])], [(0, 35, 1), (519, 132, 1), (520, 132, 1), (521, 132, 1)])
set_option maxRecDepth 20000 in
abbrev xx_X11_puts_132 : scX := (Tm, invM, lnX11, [], cc_X11_puts_132)
set_option maxRecDepth 20000 in
theorem hh_X11_puts_132 : scH Tm invM cc_X11_puts_132 := scCheck_ok (X := xx_X11_puts_132) (nodes := []) (fuel := 4000) ⟨lqX11, fa_nil⟩ dtX11_puts (by decide +kernel)
abbrev cc_X11_puts_133 : scC := (qX11_puts, 0, [((-1000), 200)], [.inr (.inr (.inl [0])), .inr (.inr (.inl [519, 520, 521])), .inl (some 0, 0), .inl (none, 0)], [((0, 35), (none, 133))], [(1, ((-1000), 200), [], [], [((0, 35), (134, 134))])], [(0, 35, 1), (519, 133, 1), (520, 133, 1), (521, 133, 1)])
set_option maxRecDepth 20000 in
abbrev xx_X11_puts_133 : scX := (Tm, invM, lnX11, [], cc_X11_puts_133)
set_option maxRecDepth 20000 in
theorem hh_X11_puts_133 : scH Tm invM cc_X11_puts_133 := scCheck_ok (X := xx_X11_puts_133) (nodes := []) (fuel := 4000) ⟨lqX11, fa_nil⟩ dtX11_puts (by decide +kernel)
abbrev cc_X11_puts_134 : scC := (qX11_puts, 0, [((-1000), 200)], [.inr (.inr (.inl [0])), .inr (.inr (.inl [519, 520, 521])), .inl (some 0, 0), .inl (none, 0)], [((0, 35), (none, 134))], [(1, ((-1000), 200), [], [], [((0, 35), (135, 135))])], [(0, 35, 1), (519, 134, 1), (520, 134, 1), (521, 134, 1)])
set_option maxRecDepth 20000 in
abbrev xx_X11_puts_134 : scX := (Tm, invM, lnX11, [], cc_X11_puts_134)
set_option maxRecDepth 20000 in
theorem hh_X11_puts_134 : scH Tm invM cc_X11_puts_134 := scCheck_ok (X := xx_X11_puts_134) (nodes := []) (fuel := 4000) ⟨lqX11, fa_nil⟩ dtX11_puts (by decide +kernel)
abbrev cc_X11_puts_135 : scC := (qX11_puts, 0, [((-1000), 200)], [.inr (.inr (.inl [0])), .inr (.inr (.inl [519, 520, 521])), .inl (some 0, 0), .inl (none, 0)], [((0, 35), (none, 135))], [(1, ((-1000), 200), [], [], [((0, 35), (136, 136))])], [(0, 35, 1), (519, 135, 1), (520, 135, 1), (521, 135, 1)])
set_option maxRecDepth 20000 in
abbrev xx_X11_puts_135 : scX := (Tm, invM, lnX11, [], cc_X11_puts_135)
set_option maxRecDepth 20000 in
theorem hh_X11_puts_135 : scH Tm invM cc_X11_puts_135 := scCheck_ok (X := xx_X11_puts_135) (nodes := []) (fuel := 4000) ⟨lqX11, fa_nil⟩ dtX11_puts (by decide +kernel)
abbrev cc_X11_puts_136 : scC := (qX11_puts, 0, [(0, 12)], [.inr (.inr (.inl [0])), .inr (.inr (.inl [519, 520, 521])), .inl (some 0, 0), .inl (none, 0)], [((0, 35), (none, 136))], [(1, (0, 12), [], [], [((0, 35), (137, 137))])], [(0, 35, 1), (519, 136, 1), (520, 136, 1), (521, 136, 1)])
set_option maxRecDepth 20000 in
abbrev xx_X11_puts_136 : scX := (Tm, invM, lnX11, [], cc_X11_puts_136)
set_option maxRecDepth 20000 in
theorem hh_X11_puts_136 : scH Tm invM cc_X11_puts_136 := scCheck_ok (X := xx_X11_puts_136) (nodes := []) (fuel := 4000) ⟨lqX11, fa_nil⟩ dtX11_puts (by decide +kernel)
abbrev cc_X11_puts_137 : scC := (qX11_puts, 0, [(0, 200)], [.inr (.inr (.inl [0])), .inr (.inr (.inl [519, 520, 521])), .inl (some 0, 0), .inl (none, 0)], [((0, 35), (none, 137))], [(1, (0, 200), [], [], [((0, 35), (138, 138))])], [(0, 35, 1), (519, 137, 1), (520, 137, 1), (521, 137, 1)])
set_option maxRecDepth 20000 in
abbrev xx_X11_puts_137 : scX := (Tm, invM, lnX11, [], cc_X11_puts_137)
set_option maxRecDepth 20000 in
theorem hh_X11_puts_137 : scH Tm invM cc_X11_puts_137 := scCheck_ok (X := xx_X11_puts_137) (nodes := []) (fuel := 4000) ⟨lqX11, fa_nil⟩ dtX11_puts (by decide +kernel)
abbrev cc_X11_puts_138 : scC := (qX11_puts, 0, [((-2147483648), 2147483647)], [.inr (.inr (.inl [0])), .inr (.inr (.inl [519, 520, 521])), .inl (some 0, 0), .inl (none, 0)], [((0, 35), (none, 138))], [(1, ((-2147483648), 2147483647), [], [], [((0, 35), (139, 139))])], [(0, 35, 1), (519, 138, 1), (520, 138, 1), (521, 138, 1)])
set_option maxRecDepth 20000 in
abbrev xx_X11_puts_138 : scX := (Tm, invM, lnX11, [], cc_X11_puts_138)
set_option maxRecDepth 20000 in
theorem hh_X11_puts_138 : scH Tm invM cc_X11_puts_138 := scCheck_ok (X := xx_X11_puts_138) (nodes := []) (fuel := 4000) ⟨lqX11, fa_nil⟩ dtX11_puts (by decide +kernel)
abbrev cc_X11_puts_139 : scC := (qX11_puts, 0, [((-2147483648), 2147483647)], [.inr (.inr (.inl [0])), .inr (.inr (.inl [519, 520, 521])), .inl (some 0, 0), .inl (none, 0)], [((0, 35), (none, 139))], [(1, ((-2147483648), 2147483647), [], [], [((0, 35), (140, 140))])], [(0, 35, 1), (519, 139, 1), (520, 139, 1), (521, 139, 1)])
set_option maxRecDepth 20000 in
abbrev xx_X11_puts_139 : scX := (Tm, invM, lnX11, [], cc_X11_puts_139)
set_option maxRecDepth 20000 in
theorem hh_X11_puts_139 : scH Tm invM cc_X11_puts_139 := scCheck_ok (X := xx_X11_puts_139) (nodes := []) (fuel := 4000) ⟨lqX11, fa_nil⟩ dtX11_puts (by decide +kernel)
abbrev cc_X11_puts_140 : scC := (qX11_puts, 0, [((-2147483648), 2147483647)], [.inr (.inr (.inl [0])), .inr (.inr (.inl [519, 520, 521])), .inl (some 0, 0), .inl (none, 0)], [((0, 35), (none, 140))], [(1, ((-2147483648), 2147483647), [], [], [((0, 35), (141, 141))])], [(0, 35, 1), (519, 140, 1), (520, 140, 1), (521, 140, 1)])
set_option maxRecDepth 20000 in
abbrev xx_X11_puts_140 : scX := (Tm, invM, lnX11, [], cc_X11_puts_140)
set_option maxRecDepth 20000 in
theorem hh_X11_puts_140 : scH Tm invM cc_X11_puts_140 := scCheck_ok (X := xx_X11_puts_140) (nodes := []) (fuel := 4000) ⟨lqX11, fa_nil⟩ dtX11_puts (by decide +kernel)
