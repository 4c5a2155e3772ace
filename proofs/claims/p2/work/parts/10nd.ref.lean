abbrev cc_X11_puts_21 : scC := (qX11_puts, 0, [((-1000), 200)], [.inr (.inr (.inl [0])), .inr (.inr (.inl [519, 520, 521])), .inl (some 0, 0), .inl (none, 0)], [((0, 35), (none, 21))], [(1, ((-1000), 200), [], [], [((0, 35), (22, 22))])], [(0, 35, 1), (519, 21, 1), (520, 21, 1), (521, 21, 1)])
set_option maxRecDepth 20000 in
abbrev xx_X11_puts_21 : scX := (Tm, invM, lnX11, [], cc_X11_puts_21)
set_option maxRecDepth 20000 in
theorem hh_X11_puts_21 : scH Tm invM cc_X11_puts_21 := scCheck_ok (X := xx_X11_puts_21) (nodes := []) (fuel := 4000) ⟨lqX11, fa_nil⟩ dtX11_puts (by decide +kernel)
abbrev cc_X11_puts_22 : scC := (qX11_puts, 0, [((-1000), 200)], [.inr (.inr (.inl [0])), .inr (.inr (.inl [519, 520, 521])), .inl (some 0, 0), .inl (none, 0)], [((0, 35), (none, 22))], [(1, ((-1000), 200), [], [], [((0, 35), (23, 23))])], [(0, 35, 1), (519, 22, 1), (520, 22, 1), (521, 22, 1)])
set_option maxRecDepth 20000 in
abbrev xx_X11_puts_22 : scX := (Tm, invM, lnX11, [], cc_X11_puts_22)
set_option maxRecDepth 20000 in
theorem hh_X11_puts_22 : scH Tm invM cc_X11_puts_22 := scCheck_ok (X := xx_X11_puts_22) (nodes := []) (fuel := 4000) ⟨lqX11, fa_nil⟩ dtX11_puts (by decide +kernel)
abbrev cc_X11_puts_23 : scC := (qX11_puts, 0, [((-1000), 200)], [.inr (.inr (.inl [0])), .inr (.inr (.inl [519, 520, 521])), .inl (some 0, 0), .inl (none, 0)], [((0, 35), (none, 23))], [(1, ((-1000), 200), [], [], [((0, 35), (24, 24))])], [(0, 35, 1), (519, 23, 1), (520, 23, 1), (521, 23, 1)])
set_option maxRecDepth 20000 in
abbrev xx_X11_puts_23 : scX := (Tm, invM, lnX11, [], cc_X11_puts_23)
set_option maxRecDepth 20000 in
theorem hh_X11_puts_23 : scH Tm invM cc_X11_puts_23 := scCheck_ok (X := xx_X11_puts_23) (nodes := []) (fuel := 4000) ⟨lqX11, fa_nil⟩ dtX11_puts (by decide +kernel)
abbrev cc_X11_puts_24 : scC := (qX11_puts, 0, [(0, 12)], [.inr (.inr (.inl [0])), .inr (.inr (.inl [519, 520, 521])), .inl (some 0, 0), .inl (none, 0)], [((0, 35), (none, 24))], [(1, (0, 12), [], [], [((0, 35), (25, 25))])], [(0, 35, 1), (519, 24, 1), (520, 24, 1), (521, 24, 1)])
set_option maxRecDepth 20000 in
abbrev xx_X11_puts_24 : scX := (Tm, invM, lnX11, [], cc_X11_puts_24)
set_option maxRecDepth 20000 in
theorem hh_X11_puts_24 : scH Tm invM cc_X11_puts_24 := scCheck_ok (X := xx_X11_puts_24) (nodes := []) (fuel := 4000) ⟨lqX11, fa_nil⟩ dtX11_puts (by decide +kernel)
abbrev cc_X11_puts_25 : scC := (qX11_puts, 0, [(0, 200)], [.inr (.inr (.inl [0])), .inr (.inr (.inl [519, 520, 521])), .inl (some 0, 0), .inl (none, 0)], [((0, 35), (none, 25))], [(1, (0, 200), [], [], [((0, 35), (26, 26))])], [(0, 35, 1), (519, 25, 1), (520, 25, 1), (521, 25, 1)])
set_option maxRecDepth 20000 in
abbrev xx_X11_puts_25 : scX := (Tm, invM, lnX11, [], cc_X11_puts_25)
set_option maxRecDepth 20000 in
theorem hh_X11_puts_25 : scH Tm invM cc_X11_puts_25 := scCheck_ok (X := xx_X11_puts_25) (nodes := []) (fuel := 4000) ⟨lqX11, fa_nil⟩ dtX11_puts (by decide +kernel)
abbrev cc_X11_puts_26 : scC := (qX11_puts, 0, [((-2147483648), 2147483647)], [.inr (.inr (.inl [0])), .inr (.inr (.inl [519, 520, 521])), .inl (some 0, 0), .inl (none, 0)], [((0, 35), (none, 26))], [(1, ((-2147483648), 2147483647), [], [], [((0, 35), (27, 27))])], [(0, 35, 1), (519, 26, 1), (520, 26, 1), (521, 26, 1)])
set_option maxRecDepth 20000 in
abbrev xx_X11_puts_26 : scX := (Tm, invM, lnX11, [], cc_X11_puts_26)
set_option maxRecDepth 20000 in
theorem hh_X11_puts_26 : scH Tm invM cc_X11_puts_26 := scCheck_ok (X := xx_X11_puts_26) (nodes := []) (fuel := 4000) ⟨lqX11, fa_nil⟩ dtX11_puts (by decide +kernel)
abbrev cc_X11_puts_27 : scC := (qX11_puts, 0, [((-2147483648), 2147483647)], [.inr (.inr (.inl [0])), .inr (.inr (.inl [519, 520, 521])), .inl (some 0, 0), .inl (none, 0)], [((0, 35), (none, 27))], [(1, ((-2147483648), 2147483647), [], [], [((0, 35), (28, 28))])], [(0, 35, 1), (519, 27, 1), (520, 27, 1), (521, 27, 1)])
set_option maxRecDepth 20000 in
abbrev xx_X11_puts_27 : scX := (Tm, invM, lnX11, [], cc_X11_puts_27)
set_option maxRecDepth 20000 in
theorem hh_X11_puts_27 : scH Tm invM cc_X11_puts_27 := scCheck_ok (X := xx_X11_puts_27) (nodes := []) (fuel := 4000) ⟨lqX11, fa_nil⟩ dtX11_puts (by decide +kernel)
abbrev cc_X11_puts_28 : scC := (qX11_puts, 0, [((-2147483648), 2147483647)], [.inr (.inr (.inl [0])), .inr (.inr (.inl [519, 520, 521])), .inl (some 0, 0), .inl (none, 0)], [((0, 35), (none, 28))], [(1, ((-2147483648), 2147483647), [], [], [((0, 35), (29, 29))])], [(0, 35, 1), (519, 28, 1), (520, 28, 1), (521, 28, 1)])
set_option maxRecDepth 20000 in
abbrev xx_X11_puts_28 : scX := (Tm, invM, lnX11, [], cc_X11_puts_28)
set_option maxRecDepth 20000 in
theorem hh_X11_puts_28 : scH Tm invM cc_X11_puts_28 := scCheck_ok (X := xx_X11_puts_28) (nodes := []) (fuel := 4000) ⟨lqX11, fa_nil⟩ dtX11_puts (by decide +kernel)
abbrev cc_X11_puts_29 : scC := (qX11_puts, 0, [((-2147483648), 2147483647)], [.inr (.inr (.inl [0])), .inr (.inr (.inl [519, 520, 521])), .inl (some 0, 0), .inl (none, 0)], [((0, 35), (none, 29))], [(1, ((-2147483648), 2147483647), [], [], [((0, 35), (30, 30))])], [(0, 35, 1), (519, 29, 1), (520, 29, 1), (521, 29, 1)])
set_option maxRecDepth 20000 in
abbrev xx_X11_puts_29 : scX := (Tm, invM, lnX11, [], cc_X11_puts_29)
set_option maxRecDepth 20000 in
theorem hh_X11_puts_29 : scH Tm invM cc_X11_puts_29 := scCheck_ok (X := xx_X11_puts_29) (nodes := []) (fuel := 4000) ⟨lqX11, fa_nil⟩ dtX11_puts (by decide +kernel)
abbrev cc_X11_puts_30 : scC := (qX11_puts, 0, [((-1000), 200)], [.inr (.inr (.inl [0])), .inr (.inr (.inl [519, 520, 521])), .inl (some 0, 0), .inl (none, 0)], [((0, 35), (none, 30))], [(1, ((-1000), 200), [], [], [((0, 35), (31, 31))])], [(0, 35, 1), (519, 30, 1), (520, 30, 1), (521, 30, 1)])
set_option maxRecDepth 20000 in
abbrev xx_X11_puts_30 : scX := (Tm, invM, lnX11, [], cc_X11_puts_30)
set_option maxRecDepth 20000 in
theorem hh_X11_puts_30 : scH Tm invM cc_X11_puts_30 := scCheck_ok (X := xx_X11_puts_30) (nodes := []) (fuel := 4000) ⟨lqX11, fa_nil⟩ dtX11_puts (by decide +kernel)
abbrev cc_X11_puts_31 : scC := (qX11_puts, 0, [((-1000), 200)], [.inr (.inr (.inl [0])), .inr (.inr (.inl [519, 520, 521])), .inl (some 0, 0), .inl (none, 0)], [((0, 35), (none, 31))], [(1, ((-1000), 200), [], [], [((0, 35), (32, 32))])], [(0, 35, 1), (519, 31, 1), (520, 31, 1), (521, 31, 1)])
set_option maxRecDepth 20000 in
abbrev xx_X11_puts_31 : scX := (Tm, invM, lnX11, [], cc_X11_puts_31)
set_option maxRecDepth 20000 in
theorem hh_X11_puts_31 : scH Tm invM cc_X11_puts_31 := scCheck_ok (X := xx_X11_puts_31) (nodes := []) (fuel := 4000) ⟨lqX11, fa_nil⟩ dtX11_puts (by decide +kernel)
abbrev cc_X11_puts_32 : scC := (qX11_puts, 0, [((-1000), 200)], [.inr (.inr (.inl [0])), .inr (.inr (.inl [519, 520, 521])), .inl (some 0, 0), .inl (none, 0)], [((0, 35), (none, 32))], [(1, ((-1000), 200), [], [], [((0, 35), (33, 33))])], [(0, 35, 1), (519, 32, 1), (520, 32, 1), (521, 32, 1)])
set_option maxRecDepth 20000 in
abbrev xx_X11_puts_32 : scX := (Tm, invM, lnX11, [], cc_X11_puts_32)
set_option maxRecDepth 20000 in
theorem hh_X11_puts_32 : scH Tm invM cc_X11_puts_32 := scCheck_ok (X := xx_X11_puts_32) (nodes := []) (fuel := 4000) ⟨lqX11, fa_nil⟩ dtX11_puts (by decide +kernel)
abbrev cc_X11_puts_33 : scC := (qX11_puts, 0, [((-1000), 200)], [.inr (.inr (.inl [0])), .inr (.inr (.inl [519, 520, 521])), .inl (some 0, 0), .inl (none, 0)], [((0, 35), (none, 33))], [(1, ((-1000), 200), [], [], [((0, 35), (34, 34))])], [(0, 35, 1), (519, 33, 1), (520, 33, 1), (521, 33, 1)])
set_option maxRecDepth 20000 in
abbrev xx_X11_puts_33 : scX := (Tm, invM, lnX11, [], cc_X11_puts_33)
set_option maxRecDepth 20000 in
theorem hh_X11_puts_33 : scH Tm invM cc_X11_puts_33 := scCheck_ok (X := xx_X11_puts_33) (nodes := []) (fuel := 4000) ⟨lqX11, fa_nil⟩ dtX11_puts (by decide +kernel)
abbrev cc_X11_puts_34 : scC := (qX11_puts, 0, [((-1000), 200)], [.inr (.inr (.inl [0])), .inr (.inr (.inl [519, 520, 521])), .inl (some 0, 0), .inl (none, 0)], [((0, 35), (none, 34))], [(1, ((-1000), 200), [], [], [((0, 35), (35, 35))])], [(0, 35, 1), (519, 34, 1), (520, 34, 1), (521, 34, 1)])
set_option maxRecDepth 20000 in
abbrev xx_X11_puts_34 : scX := (Tm, invM, lnX11, [], cc_X11_puts_34)
set_option maxRecDepth 20000 in
theorem hh_X11_puts_34 : scH Tm invM cc_X11_puts_34 := scCheck_ok (X := xx_X11_puts_34) (nodes := []) (fuel := 4000) ⟨lqX11, fa_nil⟩ dtX11_puts (by decide +kernel)
abbrev cc_X11_puts_35 : scC := (qX11_puts, 0, [((-1000), 200)], [.inr (.inr (.inl [0])), .inr (.inr (.inl [519, 520, 521])), .inl (some 0, 0), .inl (none, 0)], [((0, 35), (none, 35))], [(1, ((-1000), 200), [], [], [((0, 35), (36, 36))])], [(0, 35, 1), (519, 35, 1), (520, 35, 1), (521, 35, 1)])
set_option maxRecDepth 20000 in
abbrev xx_X11_puts_35 : scX := (Tm, invM, lnX11, [], cc_X11_puts_35)
set_option maxRecDepth 20000 in
theorem hh_X11_puts_35 : scH Tm invM cc_X11_puts_35 := scCheck_ok (X := xx_X11_puts_35) (nodes := []) (fuel := 4000) ⟨lqX11, fa_nil⟩ dtX11_puts (by decide +kernel)
abbrev cc_X11_puts_36 : scC := (qX11_puts, 0, [((-1000), 200)], [.inr (.inr (.inl [0])), .inr (.inr (.inl [519, 520, 521])), .inl (some 0, 0), .inl (none, 0)], [((0, 35), (none, 36))], [(1, ((-1000), 200), [], [], [((0, 35), (37, 37))])], [(0, 35, 1), (519, 36, 1), (520, 36, 1), (521, 36, 1)])
set_option maxRecDepth 20000 in
abbrev xx_X11_puts_36 : scX := (Tm, invM, lnX11, [], cc_X11_puts_36)
set_option maxRecDepth 20000 in
theorem hh_X11_puts_36 : scH Tm invM cc_X11_puts_36 := scCheck_ok (X := xx_X11_puts_36) (nodes := []) (fuel := 4000) ⟨lqX11, fa_nil⟩ dtX11_puts (by decide +kernel)
abbrev cc_X11_puts_37 : scC := (qX11_puts, 0, [((-1000), 200)], [.inr (.inr (.inl [0])), .inr (.inr (.inl [519, 520, 521])), .inl (some 0, 0), .inl (none, 0)], [((0, 35), (none, 37))], [(1, ((-1000), 200), [], [], [((0, 35), (38, 38))])], [(0, 35, 1), (519, 37, 1), (520, 37, 1), (521, 37, 1)])
set_option maxRecDepth 20000 in
abbrev xx_X11_puts_37 : scX := (Tm, invM, lnX11, [], cc_X11_puts_37)
set_option maxRecDepth 20000 in
theorem hh_X11_puts_37 : scH Tm invM cc_X11_puts_37 := scCheck_ok (X := xx_X11_puts_37) (nodes := []) (fuel := 4000) ⟨lqX11, fa_nil⟩ dtX11_puts (by decide +kernel)
abbrev cc_X11_puts_38 : scC := (qX11_puts, 0, [(0, 12)], [.inr (.inr (.inl [0])), .inr (.inr (.inl [519, 520, 521])), .inl (some 0, 0), .inl (none, 0)], [((0, 35), (none, 38))], [(1, (0, 12), [], [], [((0, 35), (39, 39))])], [(0, 35, 1), (519, 38, 1), (520, 38, 1), (521, 38, 1)])
set_option maxRecDepth 20000 in
abbrev xx_X11_puts_38 : scX := (Tm, invM, lnX11, [], cc_X11_puts_38)
set_option maxRecDepth 20000 in
theorem hh_X11_puts_38 : scH Tm invM cc_X11_puts_38 := scCheck_ok (X := xx_X11_puts_38) (nodes := []) (fuel := 4000) ⟨lqX11, fa_nil⟩ dtX11_puts (by decide +kernel)
abbrev cc_X11_puts_39 : scC := (qX11_puts, 0, [(0, 200)], [.inr (.inr (.inl [0])), .inr (.inr (.inl [519, 520, 521])), .inl (some 0, 0), .inl (none, 0)], [((0, 35), (none, 39))], [(1, (0, 200), [], [], [((0, 35), (40, 40))])], [(0, 35, 1), (519, 39, 1), (520, 39, 1), (521, 39, 1)])
set_option maxRecDepth 20000 in
abbrev xx_X11_puts_39 : scX := (Tm, invM, lnX11, [], cc_X11_puts_39)
set_option maxRecDepth 20000 in
theorem hh_X11_puts_39 : scH Tm invM cc_X11_puts_39 := scCheck_ok (X := xx_X11_puts_39) (nodes := []) (fuel := 4000) ⟨lqX11, fa_nil⟩ dtX11_puts (by decide +kernel)
abbrev cc_X11_puts_40 : scC := (qX11_puts, 0, [((-2147483648), 2147483647)], [.inr (.inr (.inl [0])), .inr (.inr (.inl [519, 520, 521])), .inl (some 0, 0), .inl (none, 0)], [((0, 35), (none, 40))], [(1, ((-2147483648), 2147483647), [], [], [((0, 35), (41, 41))])], [(0, 35, 1), (519, 40, 1), (520, 40, 1), (521, 40, 1)])
set_option maxRecDepth 20000 in
abbrev xx_X11_puts_40 : scX := (Tm, invM, lnX11, [], cc_X11_puts_40)
set_option maxRecDepth 20000 in
theorem hh_X11_puts_40 : scH Tm invM cc_X11_puts_40 := scCheck_ok (X := xx_X11_puts_40) (nodes := []) (fuel := 4000) ⟨lqX11, fa_nil⟩ dtX11_puts (by decide +kernel)
abbrev cc_X11_puts_41 : scC := (qX11_puts, 0, [((-2147483648), 2147483647)], [.inr (.inr (.inl [0])), .inr (.inr (.inl [519, 520, 521])), .inl (some 0, 0), .inl (none, 0)], [((0, 35), (none, 41))], [(1, ((-2147483648), 2147483647), [], [], [((0, 35), (42, 42))])], [(0, 35, 1), (519, 41, 1), (520, 41, 1), (521, 41, 1)])
set_option maxRecDepth 20000 in
abbrev xx_X11_puts_41 : scX := (Tm, invM, lnX11, [], cc_X11_puts_41)
set_option maxRecDepth 20000 in
theorem hh_X11_puts_41 : scH Tm invM cc_X11_puts_41 := scCheck_ok (X := xx_X11_puts_41) (nodes := []) (fuel := 4000) ⟨lqX11, fa_nil⟩ dtX11_puts (by decide +kernel)
abbrev cc_X11_puts_42 : scC := (qX11_puts, 0, [((-2147483648), 2147483647)], [.inr (.inr (.inl [0])), .inr (.inr (.inl [519, 520, 521])), .inl (some 0, 0), .inl (none, 0)], [((0, 35), (none, 42))], [(1, ((-2147483648), 2147483647), [], [], [((0, 35), (43, 43))])], [(0, 35, 1), (519, 42, 1), (520, 42, 1), (521, 42, 1)])
set_option maxRecDepth 20000 in
abbrev xx_X11_puts_42 : scX := (Tm, invM, lnX11, [], cc_X11_puts_42)
set_option maxRecDepth 20000 in
theorem hh_X11_puts_42 : scH Tm invM cc_X11_puts_42 := scCheck_ok (X := xx_X11_puts_42) (nodes := []) (fuel := 4000) ⟨lqX11, fa_nil⟩ dtX11_puts (by decide +kernel)
abbrev cc_X11_puts_43 : scC := (qX11_puts, 0, [((-2147483648), 2147483647)], [.inr (.inr (.inl [0])), .inr (.inr (.inl [519, 520, 521])), .inl (some 0, 0), .inl (none, 0)], [((0, 35), (none, 43))], [(1, ((-2147483648), 2147483647), [], [], [((0, 35), (44, 44))])], [(0, 35, 1), (519, 43, 1), (520, 43, 1), (521, 43, 1)])
set_option maxRecDepth 20000 in
abbrev xx_X11_puts_43 : scX := (Tm, invM, lnX11, [], cc_X11_puts_43)
set_option maxRecDepth 20000 in
theorem hh_X11_puts_43 : scH Tm invM cc_X11_puts_43 := scCheck_ok (X := xx_X11_puts_43) (nodes := []) (fuel := 4000) ⟨lqX11, fa_nil⟩ dtX11_puts (by decide +kernel)
abbrev cc_X11_puts_44 : scC := (qX11_puts, 0, [((-1000), 200)], [.inr (.inr (.inl [0])), .inr (.inr (.inl [519, 520, 521])), .inl (some 0, 0), .inl (none, 0)], [((0, 35), (none, 44))], [(1, ((-1000), 200), [], [], [((0, 35), (45, 45))])], [(0, 35, 1), (519, 44, 1), (520, 44, 1), (521, 44, 1)])
set_option maxRecDepth 20000 in
abbrev xx_X11_puts_44 : scX := (Tm, invM, lnX11, [], cc_X11_puts_44)
set_option maxRecDepth 20000 in
theorem hh_X11_puts_44 : scH Tm invM cc_X11_puts_44 := scCheck_ok (X := xx_X11_puts_44) (nodes := []) (fuel := 4000) ⟨lqX11, fa_nil⟩ dtX11_puts (by decide +kernel)
abbrev cc_X11_puts_45 : scC := (qX11_puts, 0, [((-1000), 200)], [.inr (.inr (.inl [0])), .inr (.inr (.inl [519, 520, 521])), .inl (some 0, 0), .inl (none, 0)], [((0, 35), (none, 45))], [(1, ((-1000), 200), [], [], [((0, 35), (46, 46))])], [(0, 35, 1), (519, 45, 1), (520, 45, 1), (521, 45, 1)])
set_option maxRecDepth 20000 in
abbrev xx_X11_puts_45 : scX := (Tm, invM, lnX11, [], cc_X11_puts_45)
set_option maxRecDepth 20000 in
theorem hh_X11_puts_45 : scH Tm invM cc_X11_puts_45 := scCheck_ok (X := xx_X11_puts_45) (nodes := []) (fuel := 4000) ⟨lqX11, fa_nil⟩ dtX11_puts (by decide +kernel)
abbrev cc_X11_puts_46 : scC := (qX11_puts, 0, [((-1000), 200)], [.inr (.inr (.inl [0])), .inr (.inr (.inl [519, 520, 521])), .inl (some 0, 0), .inl (none, 0)], [((0, 35), (none, 46))], [(1, ((-1000), 200), [], [], [((0, 35), (47, 47))])], [(0, 35, 1), (519, 46, 1), (520, 46, 1), (521, 46, 1)])
set_option maxRecDepth 20000 in
abbrev xx_X11_puts_46 : scX := (Tm, invM, lnX11, [], cc_X11_puts_46)
set_option maxRecDepth 20000 in
theorem hh_X11_puts_46 : scH Tm invM cc_X11_puts_46 := scCheck_ok (X := xx_X11_puts_46) (nodes := []) (fuel := 4000) ⟨lqX11, fa_nil⟩ dtX11_puts (by decide +kernel)
abbrev cc_X11_puts_47 : scC := (qX11_puts, 0, [((-1000), 200)], [.inr (.inr (.inl [0])), .inr (.inr (.inl [519, 520, 521])), .inl (some 0, 0), .inl (none, 0)], [((0, 35), (none, 47))], [(1, ((-1000), 200), [], [], [((0, 35), (48, 48))])], [(0, 35, 1), (519, 47, 1), (520, 47, 1), (521, 47, 1)])
set_option maxRecDepth 20000 in
abbrev xx_X11_puts_47 : scX := (Tm, invM, lnX11, [], cc_X11_puts_47)
set_option maxRecDepth 20000 in
theorem hh_X11_puts_47 : scH Tm invM cc_X11_puts_47 := scCheck_ok (X := xx_X11_puts_47) (nodes := []) (fuel := 4000) ⟨lqX11, fa_nil⟩ dtX11_puts (by decide +kernel)
abbrev cc_X11_puts_48 : scC := (qX11_puts, 0, [((-1000), 200)], [.inr (.inr (.inl [0])), .inr (.inr (.inl [519, 520, 521])), .inl (some 0, 0), .inl (none, 0)], [((0, 35), (none, 48))], [(1, ((-1000), 200), [], [], [((0, 35), (49, 49))])], [(0, 35, 1), (519, 48, 1), (520, 48, 1), (521, 48, 1)])
set_option maxRecDepth 20000 in
abbrev xx_X11_puts_48 : scX := (Tm, invM, lnX11, [], cc_X11_puts_48)
set_option maxRecDepth 20000 in
theorem hh_X11_puts_48 : scH Tm invM cc_X11_puts_48 := scCheck_ok (X := xx_X11_puts_48) (nodes := []) (fuel := 4000) ⟨lqX11, fa_nil⟩ dtX11_puts (by decide +kernel)
abbrev cc_X11_puts_49 : scC := (qX11_puts, 0, [((-1000), 200)], [.inr (.inr (.inl [0])), .inr (.inr (.inl [519, 520, 521])), .inl (some 0, 0), .inl (none, 0)], [((0, 35), (none, 49))], [(1, ((-1000), 200), [], [], [((0, 35), (50, 50))])], [(0, 35, 1), (519, 49, 1), (520, 49, 1), (521, 49, 1)])
set_option maxRecDepth 20000 in
abbrev xx_X11_puts_49 : scX := (Tm, invM, lnX11, [], cc_X11_puts_49)
set_option maxRecDepth 20000 in
theorem hh_X11_puts_49 : scH Tm invM cc_X11_puts_49 := scCheck_ok (X := xx_X11_puts_49) (nodes := []) (fuel := 4000) ⟨lqX11, fa_nil⟩ dtX11_puts (by decide +kernel)
abbrev cc_X11_puts_50 : scC := (qX11_puts, 0, [((-1000), 200)], [.inr (.inr (.inl [0])), .inr (.inr (.inl [519, 520, 521])), .inl (some 0, 0), .inl (none, 0)], [((0, 35), (none, 50))], [(1, ((-1000), 200), [], [], [((0, 35), (51, 51))])], [(0, 35, 1), (519, 50, 1), (520, 50, 1), (521, 50, 1)])
set_option maxRecDepth 20000 in
abbrev xx_X11_puts_50 : scX := (Tm, invM, lnX11, [], cc_X11_puts_50)
set_option maxRecDepth 20000 in
theorem hh_X11_puts_50 : scH Tm invM cc_X11_puts_50 := scCheck_ok (X := xx_X11_puts_50) (nodes := []) (fuel := 4000) ⟨lqX11, fa_nil⟩ dtX11_puts (by decide +kernel)
abbrev cc_X11_puts_51 : scC := (qX11_puts, 0, [((-1000), 200)], [.inr (.inr (.inl [0])), .inr (.inr (.inl [519, 520, 521])), .inl (some 0, 0), .inl (none, 0)], [((0, 35), (none, 51))], [(1, ((-1000), 200), [], [], [((0, 35), (52, 52))])], [(0, 35, 1), (519, 51, 1), (520, 51, 1), (521, 51, 1)])
set_option maxRecDepth 20000 in
abbrev xx_X11_puts_51 : scX := (Tm, invM, lnX11, [], cc_X11_puts_51)
set_option maxRecDepth 20000 in
theorem hh_X11_puts_51 : scH Tm invM cc_X11_puts_51 := scCheck_ok (X := xx_X11_puts_51) (nodes := []) (fuel := 4000) ⟨lqX11, fa_nil⟩ dtX11_puts (by decide +kernel)
abbrev cc_X11_puts_52 : scC := (qX11_puts, 0, [(0, 12)], [.inr (.inr (.inl [0])), .inr (.inr (.inl [519, 520, 521])), .inl (some 0, 0), .inl (none, 0)], [((0, 35), (none, 52))], [(1, (0, 12), [], [], [((0, 35), (53, 53))])], [(0, 35, 1), (519, 52, 1), (520, 52, 1), (521, 52, 1)])
set_option maxRecDepth 20000 in
abbrev xx_X11_puts_52 : scX := (Tm, invM, lnX11, [], cc_X11_puts_52)
set_option maxRecDepth 20000 in
theorem hh_X11_puts_52 : scH Tm invM cc_X11_puts_52 := scCheck_ok (X := xx_X11_puts_52) (nodes := []) (fuel := 4000) ⟨lqX11, fa_nil⟩ dtX11_puts (by decide +kernel)
abbrev cc_X11_puts_53 : scC := (qX11_puts, 0, [(0, 200)], [.inr (.inr (.inl [0])), .inr (.inr (.inl [519, 520, 521])), .inl (some 0, 0), .inl (none, 0)], [((0, 35), (none, 53))], [(1, (0, 200), [], [], [((0, 35), (54, 54))])], [(0, 35, 1), (519, 53, 1), (520, 53, 1), (521, 53, 1)])
set_option maxRecDepth 20000 in
abbrev xx_X11_puts_53 : scX := (Tm, invM, lnX11, [], cc_X11_puts_53)
set_option maxRecDepth 20000 in
theorem hh_X11_puts_53 : scH Tm invM cc_X11_puts_53 := scCheck_ok (X := xx_X11_puts_53) (nodes := []) (fuel := 4000) ⟨lqX11, fa_nil⟩ dtX11_puts (by decide +kernel)
abbrev cc_X11_puts_54 : scC := (qX11_puts, 0, [((-2147483648), 2147483647)], [.inr (.inr (.inl [0])), .inr (.inr (.inl [519, 520, 521])), .inl (some 0, 0), .inl (none, 0)], [((0, 35), (none, 54))], [(1, ((-2147483648), 2147483647), [], [], [((0, 35), (55, 55))])], [(0, 35, 1), (519, 54, 1), (520, 54, 1), (521, 54, 1)])
set_option maxRecDepth 20000 in
abbrev xx_X11_puts_54 : scX := (Tm, invM, lnX11, [], cc_X11_puts_54)
set_option maxRecDepth 20000 in
theorem hh_X11_puts_54 : scH Tm invM cc_X11_puts_54 := scCheck_ok (X := xx_X11_puts_54) (nodes := []) (fuel := 4000) ⟨lqX11, fa_nil⟩ dtX11_puts (by decide +kernel)
abbrev cc_X11_puts_55 : scC := (qX11_puts, 0, [((-2147483648), 2147483647)], [.inr (.inr (.inl [0])), .inr (.inr (.inl [519, 520, 521])), .inl (some 0, 0), .inl (none, 0)], [((0, 35), (none, 55))], [(1, ((-2147483648), 2147483647), [], [], [((0, 35), (56, 56))])], [(0, 35, 1), (519, 55, 1), (520, 55, 1), (521, 55, 1)])
set_option maxRecDepth 20000 in
abbrev xx_X11_puts_55 : scX := (Tm, invM, lnX11, [], cc_X11_puts_55)
set_option maxRecDepth 20000 in
theorem hh_X11_puts_55 : scH Tm invM cc_X11_puts_55 := scCheck_ok (X := xx_X11_puts_55) (nodes := []) (fuel := 4000) ⟨lqX11, fa_nil⟩ dtX11_puts (by decide +kernel)
abbrev cc_X11_puts_56 : scC := (qX11_puts, 0, [((-2147483648), 2147483647)], [.inr (.inr (.inl [0])), .inr (.inr (.inl [519, 520, 521])), .inl (some 0, 0), .inl (none, 0)], [((0, 35), (none, 56))], [(1, ((-2147483648), 2147483647), [], [], [((0, 35), (57, 57))])], [(0, 35, 1), (519, 56, 1), (520, 56, 1), (521, 56, 1)])
set_option maxRecDepth 20000 in
abbrev xx_X11_puts_56 : scX := (Tm, invM, lnX11, [], cc_X11_puts_56)
set_option maxRecDepth 20000 in
theorem hh_X11_puts_56 : scH Tm invM cc_X11_puts_56 := scCheck_ok (X := xx_X11_puts_56) (nodes := []) (fuel := 4000) ⟨lqX11, fa_nil⟩ dtX11_puts (by decide +kernel)
abbrev cc_X11_puts_57 : scC := (qX11_puts, 0, [((-2147483648), 2147483647)], [.inr (.inr (.inl [0])), .inr (.inr (.inl [519, 520, 521])), .inl (some 0, 0), .inl (none, 0)], [((0, 35), (none, 57))], [(1, ((-2147483648), 2147483647), [], [], [((0, 35), (58, 58))])], [(0, 35, 1), (519, 57, 1), (520, 57, 1), (521, 57, 1)])
set_option maxRecDepth 20000 in
abbrev xx_X11_puts_57 : scX := (Tm, invM, lnX11, [], cc_X11_puts_57)
set_option maxRecDepth 20000 in
theorem hh_X11_puts_57 : scH Tm invM cc_X11_puts_57 := scCheck_ok (X := xx_X11_puts_57) (nodes := []) (fuel := 4000) ⟨lqX11, fa_nil⟩ dtX11_puts (by decide +kernel)
abbrev cc_X11_puts_58 : scC := (qX11_puts, 0, [((-1000), 200)], [.inr (.inr (.inl [0])), .inr (.inr (.inl [519, 520, 521])), .inl (some 0, 0), .inl (none, 0)], [((0, 35), (none, 58))], [(1, ((-1000), 200), [], [], [((0, 35), (59, 59))])], [(0, 35, 1), (519, 58, 1), (520, 58, 1), (521, 58, 1)])
set_option maxRecDepth 20000 in
abbrev xx_X11_puts_58 : scX := (Tm, invM, lnX11, [], cc_X11_puts_58)
set_option maxRecDepth 20000 in
theorem hh_X11_puts_58 : scH Tm invM cc_X11_puts_58 := scCheck_ok (X := xx_X11_puts_58) (nodes := []) (fuel := 4000) ⟨lqX11, fa_nil⟩ dtX11_puts (by decide +kernel)
abbrev cc_X11_puts_59 : scC := (qX11_puts, 0, [((-1000), 200)], [.inr (.inr (.inl [0])), .inr (.inr (.inl [519, 520, 521])), .inl (some 0, 0), .inl (none, 0)], [((0, 35), (none, 59))], [(1, ((-1000), 200), [], [], [((0, 35), (60, 60))])], [(0, 35, 1), (519, 59, 1), (520, 59, 1), (521, 59, 1)])
set_option maxRecDepth 20000 in
abbrev xx_X11_puts_59 : scX := (Tm, invM, lnX11, [], cc_X11_puts_59)
set_option maxRecDepth 20000 in
theorem hh_X11_puts_59 : scH Tm invM cc_X11_puts_59 := scCheck_ok (X := xx_X11_puts_59) (nodes := []) (fuel := 4000) ⟨lqX11, fa_nil⟩ dtX11_puts (by decide +kernel)
abbrev cc_X11_puts_60 : scC := (qX11_puts, 0, [((-1000), 200)], [.inr (.inr (.inl [0])), .inr (.inr (.inl [519, 520, 521])), .inl (some 0, 0), .inl (none, 0)], [((0, 35), (none, 60))], [(1, ((-1000), 200), [], [], [((0, 35), (61, 61))])], [(0, 35, 1), (519, 60, 1), (520, 60, 1), (521, 60, 1)])
set_option maxRecDepth 20000 in
abbrev xx_X11_puts_60 : scX := (Tm, invM, lnX11, [], cc_X11_puts_60)
set_option maxRecDepth 20000 in
theorem hh_X11_puts_60 : scH Tm invM cc_X11_puts_60 := scCheck_ok (X := xx_X11_puts_60) (nodes := []) (fuel := 4000) ⟨lqX11, fa_nil⟩ dtX11_puts (by decide +kernel)
abbrev cc_X11_puts_61 : scC := (qX11_puts, 0, [((-1000), 200)], [.inr (.inr (.inl [0])), .inr (.inr (.inl [519, 520, 521])), .inl (some 0, 0), .inl (none, 0)], [((0, 35), (none, 61))], [(1, ((-1000), 200), [], [], [((0, 35), (62, 62))])], [(0, 35, 1), (519, 61, 1), (520, 61, 1), (521, 61, 1)])
set_option maxRecDepth 20000 in
abbrev xx_X11_puts_61 : scX := (Tm, invM, lnX11, [], cc_X11_puts_61)
set_option maxRecDepth 20000 in
theorem hh_X11_puts_61 : scH Tm invM cc_X11_puts_61 := scCheck_ok (X := xx_X11_puts_61) (nodes := []) (fuel := 4000) ⟨lqX11, fa_nil⟩ dtX11_puts (by decide +kernel)
abbrev cc_X11_puts_62 : scC := (qX11_puts, 0, [((-1000), 200)], [.inr (.inr (.inl [0])), .inr (.inr (.inl [519, 520, 521])), .inl (some 0, 0), .inl (none, 0)], [((0, 35), (none, 62))], [(1, ((-1000), 200), [], [], [((0, 35), (63, 63))])], [(0, 35, 1), (519, 62, 1), (520, 62, 1), (521, 62, 1)])
set_option maxRecDepth 20000 in
abbrev xx_X11_puts_62 : scX := (Tm, invM, lnX11, [], cc_X11_puts_62)
set_option maxRecDepth 20000 in
theorem hh_X11_puts_62 : scH Tm invM cc_X11_puts_62 := scCheck_ok (X := xx_X11_puts_62) (nodes := []) (fuel := 4000) ⟨lqX11, fa_nil⟩ dtX11_puts (by decide +kernel)
abbrev cc_X11_puts_63 : scC := (qX11_puts, 0, [((-1000), 200)], [.inr (.inr (.inl [0])), .inr (.inr (.inl [519, 520, 521])), .inl (some 0, 0), .inl (none, 0)], [((0, 35), (none, 63))], [(1, ((-1000), 200), [], [], [((0, 35), (64, 64))])], [(0, 35, 1), (519, 63, 1), (520, 63, 1), (521, 63, 1)])
set_option maxRecDepth 20000 in
abbrev xx_X11_puts_63 : scX := (Tm, invM, lnX11, [], cc_X11_puts_63)
set_option maxRecDepth 20000 in
theorem hh_X11_puts_63 : scH Tm invM cc_X11_puts_63 := scCheck_ok (X := xx_X11_puts_63) (nodes := []) (fuel := 4000) ⟨lqX11, fa_nil⟩ dtX11_puts (by decide +kernel)
abbrev cc_X11_puts_64 : scC := (qX11_puts, 0, [((-1000), 200)], [.inr (.inr (.inl [0])), .inr (.inr (.inl [519, 520, 521])), .inl (some 0, 0), .inl (none, 0)], [((0, 35), (none, 64))], [(1, ((-1000), 200), [], [], [((0, 35), (65, 65))])], [(0, 35, 1), (519, 64, 1), (520, 64, 1), (521, 64, 1)])
set_option maxRecDepth 20000 in
abbrev xx_X11_puts_64 : scX := (Tm, invM, lnX11, [], cc_X11_puts_64)
set_option maxRecDepth 20000 in
theorem hh_X11_puts_64 : scH Tm invM cc_X11_puts_64 := scCheck_ok (X := xx_X11_puts_64) (nodes := []) (fuel := 4000) ⟨lqX11, fa_nil⟩ dtX11_puts (by decide +kernel)
abbrev cc_X11_puts_65 : scC := (qX11_puts, 0, [((-1000), 200)], [.inr (.inr (.inl [0])), .inr (.inr (.inl [519, 520, 521])), .inl (some 0, 0), .inl (none, 0)], [((0, 35), (none, 65))], [(1, ((-1000), 200), [], [], [((0, 35), (66, 66))])], [(0, 35, 1), (519, 65, 1), (520, 65, 1), (521, 65, 1)])
set_option maxRecDepth 20000 in
abbrev xx_X11_puts_65 : scX := (Tm, invM, lnX11, [], cc_X11_puts_65)
set_option maxRecDepth 20000 in
theorem hh_X11_puts_65 : scH Tm invM cc_X11_puts_65 := scCheck_ok (X := xx_X11_puts_65) (nodes := []) (fuel := 4000) ⟨lqX11, fa_nil⟩ dtX11_puts (by decide +kernel)
abbrev cc_X11_puts_66 : scC := (qX11_puts, 0, [(0, 12)], [.inr (.inr (.inl [0])), .inr (.inr (.inl [519, 520, 521])), .inl (some 0, 0), .inl (none, 0)], [((0, 35), (none, 66))], [(1, (0, 12), [], [], [((0, 35), (67, 67))])], [(0, 35, 1), (519, 66, 1), (520, 66, 1), (521, 66, 1)])
set_option maxRecDepth 20000 in
abbrev xx_X11_puts_66 : scX := (Tm, invM, lnX11, [], cc_X11_puts_66)
set_option maxRecDepth 20000 in
theorem hh_X11_puts_66 : scH Tm invM cc_X11_puts_66 := scCheck_ok (X := xx_X11_puts_66) (nodes := []) (fuel := 4000) ⟨lqX11, fa_nil⟩ dtX11_puts (by decide +kernel)
abbrev cc_X11_puts_67 : scC := (qX11_puts, 0, [(0, 200)], [.inr (.inr (.inl [0])), .inr (.inr (.inl [519, 520, 521])), .inl (some 0, 0), .inl (none, 0)], [((0, 35), (none, 67))], [(1, (0, 200), [], [], [((0, 35), (68, 68))])], [(0, 35, 1), (519, 67, 1), (520, 67, 1), (521, 67, 1)])
set_option maxRecDepth 20000 in
abbrev xx_X11_puts_67 : scX := (Tm, invM, lnX11, [], cc_X11_puts_67)
set_option maxRecDepth 20000 in
theorem hh_X11_puts_67 : scH Tm invM cc_X11_puts_67 := scCheck_ok (X := xx_X11_puts_67) (nodes := []) (fuel := 4000) ⟨lqX11, fa_nil⟩ dtX11_puts (by decide +kernel)
abbrev cc_X11_puts_68 : scC := (qX11_puts, 0, [((-2147483648), 2147483647)], [.inr (.inr (.inl [0])), .inr (.inr (.inl [519, 520, 521])), .inl (some 0, 0), .inl (none, 0)], [((0, 35), (none, 68))], [(1, ((-2147483648), 2147483647), [], [], [((0, 35), (69, 69))])], [(0, 35, 1), (519, 68, 1), (520, 68, 1), (521, 68, 1)])
set_option maxRecDepth 20000 in
abbrev xx_X11_puts_68 : scX := (Tm, invM, lnX11, [], cc_X11_puts_68)
set_option maxRecDepth 20000 in
theorem hh_X11_puts_68 : scH Tm invM cc_X11_puts_68 := scCheck_ok (X := xx_X11_puts_68) (nodes := []) (fuel := 4000) ⟨lqX11, fa_nil⟩ dtX11_puts (by decide +kernel)
abbrev cc_X11_puts_69 : scC := (qX11_puts, 0, [((-2147483648), 2147483647)], [.inr (.inr (.inl [0])), .inr (.inr (.inl [519, 520, 521])), .inl (some 0, 0), .inl (none, 0)], [((0, 35), (none, 69))], [(1, ((-2147483648), 2147483647), [], [], [((0, 35), (70, 70))])], [(0, 35, 1), (519, 69, 1), (520, 69, 1), (521, 69, 1)])
set_option maxRecDepth 20000 in
abbrev xx_X11_puts_69 : scX := (Tm, invM, lnX11, [], cc_X11_puts_69)
set_option maxRecDepth 20000 in
theorem hh_X11_puts_69 : scH Tm invM cc_X11_puts_69 := scCheck_ok (X := xx_X11_puts_69) (nodes := []) (fuel := 4000) ⟨lqX11, fa_nil⟩ dtX11_puts (by decide +kernel)
abbrev cc_X11_puts_70 : scC := (qX11_puts, 0, [((-2147483648), 2147483647)], [.inr (.inr (.inl [0])), .inr (.inr (.inl [519, 520, 521])), .inl (some 0, 0), .inl (none, 0)], [((0, 35), (none, 70))], [(1, ((-2147483648), 2147483647), [], [], [((0, 35), (71, 71))])], [(0, 35, 1), (519, 70, 1), (520, 70, 1), (521, 70, 1)])
set_option maxRecDepth 20000 in
abbrev xx_X11_puts_70 : scX := (Tm, invM, lnX11, [], cc_X11_puts_70)
set_option maxRecDepth 20000 in
theorem hh_X11_puts_70 : scH Tm invM cc_X11_puts_70 := scCheck_ok (X := xx_X11_puts_70) (nodes := []) (fuel := 4000) ⟨lqX11, fa_nil⟩ dtX11_puts (by decide +kernel)
abbrev cc_X11_puts_71 : scC := (qX11_puts, 0, [((-2147483648), 2147483647)], [.inr (.inr (.inl [0])), .inr (.inr (.inl [519, 520, 521])), .inl (some 0, 0), .inl (none, 0)], [((0, 35), (none, 71))], [(1, ((-2147483648), 2147483647), [], [], [((0, 35), (72, 72))])], [(0, 35, 1), (519, 71, 1), (520, 71, 1), (521, 71, 1)])
set_option maxRecDepth 20000 in
abbrev xx_X11_puts_71 : scX := (Tm, invM, lnX11, [], cc_X11_puts_71)
set_option maxRecDepth 20000 in
theorem hh_X11_puts_71 : scH Tm invM cc_X11_puts_71 := scCheck_ok (X := xx_X11_puts_71) (nodes := []) (fuel := 4000) ⟨lqX11, fa_nil⟩ dtX11_puts (by decide +kernel)
abbrev cc_X11_puts_72 : scC := (qX11_puts, 0, [((-1000), 200)], [.inr (.inr (.inl [0])), .inr (.inr (.inl [519, 520, 521])), .inl (some 0, 0), .inl (none, 0)], [((0, 35), (none, 72))], [(1, ((-1000), 200), [], [], [((0, 35), (73, 73))])], [(0, 35, 1), (519, 72, 1), (520, 72, 1), (521, 72, 1)])
set_option maxRecDepth 20000 in
abbrev xx_X11_puts_72 : scX := (Tm, invM, lnX11, [], cc_X11_puts_72)
set_option maxRecDepth 20000 in
theorem hh_X11_puts_72 : scH Tm invM cc_X11_puts_72 := scCheck_ok (X := xx_X11_puts_72) (nodes := []) (fuel := 4000) ⟨lqX11, fa_nil⟩ dtX11_puts (by decide +kernel)
abbrev cc_X11_puts_73 : scC := (qX11_puts, 0, [((-1000), 200)], [.inr (.inr (.inl [0])), .inr (.inr (.inl [519, 520, 521])), .inl (some 0, 0), .inl (none, 0)], [((0, 35), (none, 73))], [(1, ((-1000), 200), [], [], [((0, 35), (74, 74))])], [(0, 35, 1), (519, 73, 1), (520, 73, 1), (521, 73, 1)])
set_option maxRecDepth 20000 in
abbrev xx_X11_puts_73 : scX := (Tm, invM, lnX11, [], cc_X11_puts_73)
set_option maxRecDepth 20000 in
theorem hh_X11_puts_73 : scH Tm invM cc_X11_puts_73 := scCheck_ok (X := xx_X11_puts_73) (nodes := []) (fuel := 4000) ⟨lqX11, fa_nil⟩ dtX11_puts (by decide +kernel)
abbrev cc_X11_puts_74 : scC := (qX11_puts, 0, [((-1000), 200)], [.inr (.inr (.inl [0])), .inr (.inr (.inl [519, 520, 521])), .inl (some 0, 0), .inl (none, 0)], [((0, 35), (none, 74))], [(1, ((-1000), 200), [], [], [((0, 35), (75, 75))])], [(0, 35, 1), (519, 74, 1), (520, 74, 1), (521, 74, 1)])
set_option maxRecDepth 20000 in
abbrev xx_X11_puts_74 : scX := (Tm, invM, lnX11, [], cc_X11_puts_74)
set_option maxRecDepth 20000 in
theorem hh_X11_puts_74 : scH Tm invM cc_X11_puts_74 := scCheck_ok (X := xx_X11_puts_74) (nodes := []) (fuel := 4000) ⟨lqX11, fa_nil⟩ dtX11_puts (by decide +kernel)
abbrev cc_X11_puts_75 : scC := (qX11_puts, 0, [((-1000), 200)], [.inr (.inr (.inl [0])), .inr (.inr (.inl [519, 520, 521])), .inl (some 0, 0), .inl (none, 0)], [((0, 35), (none, 75))], [(1, ((-1000), 200), [], [], [((0, 35), (76, 76))])], [(0, 35, 1), (519, 75, 1), (520, 75, 1), (521, 75, 1)])
set_option maxRecDepth 20000 in
abbrev xx_X11_puts_75 : scX := (Tm, invM, lnX11, [], cc_X11_puts_75)
set_option maxRecDepth 20000 in
theorem hh_X11_puts_75 : scH Tm invM cc_X11_puts_75 := scCheck_ok (X := xx_X11_puts_75) (nodes := []) (fuel := 4000) ⟨lqX11, fa_nil⟩ dtX11_puts (by decide +kernel)
abbrev cc_X11_puts_76 : scC := (qX11_puts, 0, [((-1000), 200)], [.inr (.inr (.inl [0])), .inr (.inr (.inl [519, 520, 521])), .inl (some 0, 0), .inl (none, 0)], [((0, 35), (none, 76))], [(1, ((-1000), 200), [], [], [((0, 35), (77, 77))])], [(0, 35, 1), (519, 76, 1), (520, 76, 1), (521, 76, 1)])
set_option maxRecDepth 20000 in
abbrev xx_X11_puts_76 : scX := (Tm, invM, lnX11, [], cc_X11_puts_76)
set_option maxRecDepth 20000 in
theorem hh_X11_puts_76 : scH Tm invM cc_X11_puts_76 := scCheck_ok (X := xx_X11_puts_76) (nodes := []) (fuel := 4000) ⟨lqX11, fa_nil⟩ dtX11_puts (by decide +kernel)
abbrev cc_X11_puts_77 : scC := (qX11_puts, 0, [((-1000), 200)], [.inr (.inr (.inl [0])), .inr (.inr (.inl [519, 520, 521])), .inl (some 0, 0), .inl (none, 0)], [((0, 35), (none, 77))], [(1, ((-1000), 200), [], [], [((0, 35), (78, 78))])], [(0, 35, 1), (519, 77, 1), (520, 77, 1), (521, 77, 1)])
set_option maxRecDepth 20000 in
abbrev xx_X11_puts_77 : scX := (Tm, invM, lnX11, [], cc_X11_puts_77)
set_option maxRecDepth 20000 in
theorem hh_X11_puts_77 : scH Tm invM cc_X11_puts_77 := scCheck_ok (X := xx_X11_puts_77) (nodes := []) (fuel := 4000) ⟨lqX11, fa_nil⟩ dtX11_puts (by decide +kernel)
abbrev cc_X11_puts_78 : scC := (qX11_puts, 0, [((-1000), 200)], [.inr (.inr (.inl [0])), .inr (.inr (.inl [519, 520, 521])), .inl (some 0, 0), .inl (none, 0)], [((0, 35), (none, 78))], [(1, ((-1000), 200), [], [], [((0, 35), (79, 79))])], [(0, 35, 1), (519, 78, 1), (520, 78, 1), (521, 78, 1)])
set_option maxRecDepth 20000 in
abbrev xx_X11_puts_78 : scX := (Tm, invM, lnX11, [], cc_X11_puts_78)
set_option maxRecDepth 20000 in
theorem hh_X11_puts_78 : scH Tm invM cc_X11_puts_78 := scCheck_ok (X := xx_X11_puts_78) (nodes := []) (fuel := 4000) ⟨lqX11, fa_nil⟩ dtX11_puts (by decide +kernel)
abbrev cc_X11_puts_79 : scC := (qX11_puts, 0, [((-1000), 200)], [.inr (.inr (.inl [0])), .inr (.inr (.inl [519, 520, 521])), .inl (some 0, 0), .inl (none, 0)], [((0, 35), (none, 79))], [(1, ((-1000), 200), [], [], [((0, 35), (80, 80))])], [(0, 35, 1), (519, 79, 1), (520, 79, 1), (521, 79, 1)])
set_option maxRecDepth 20000 in
abbrev xx_X11_puts_79 : scX := (Tm, invM, lnX11, [], cc_X11_puts_79)
set_option maxRecDepth 20000 in
theorem hh_X11_puts_79 : scH Tm invM cc_X11_puts_79 := scCheck_ok (X := xx_X11_puts_79) (nodes := []) (fuel := 4000) ⟨lqX11, fa_nil⟩ dtX11_puts (by decide +kernel)
abbrev cc_X11_puts_80 : scC := (qX11_puts, 0, [(0, 12)], [.inr (.inr (.inl [0])), .inr (.inr (.inl [519, 520, 521])), .inl (some 0, 0), .inl (none, 0)], [((0, 35), (none, 80))], [(1, (0, 12), [], [], [((0, 35), (81, 81))])], [(0, 35, 1), (519, 80, 1), (520, 80, 1), (521, 80, 1)])
set_option maxRecDepth 20000 in
abbrev xx_X11_puts_80 : scX := (Tm, invM, lnX11, [], cc_X11_puts_80)
set_option maxRecDepth 20000 in
theorem hh_X11_puts_80 : scH Tm invM cc_X11_puts_80 := scCheck_ok (X := xx_X11_puts_80) (nodes := []) (fuel := 4000) ⟨lqX11, fa_nil⟩ dtX11_puts (by decide +kernel)
