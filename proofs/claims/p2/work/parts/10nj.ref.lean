abbrev cc_X11_puts_379 : scC := (qX11_puts, 0, [((-2147483648), 2147483647)], [.inr (.inr (.inl [0])), .inr (.inr (.inl [519, 520, 521])), .inl (some 0, 0), .inl (none, 1)], [((0, 35), (none, 140))], [(1, ((-2147483648), 2147483647), [], [], [((0, 35), (141, 141))])], [(0, 35, 1)])
set_option maxRecDepth 20000 in
abbrev xx_X11_puts_379 : scX := (Tm, invM, lnX11, [], cc_X11_puts_379)
set_option maxRecDepth 20000 in
theorem hh_X11_puts_379 : scH Tm invM cc_X11_puts_379 := scCheck_ok (X := xx_X11_puts_379) (nodes := []) (fuel := 4000) ⟨lqX11, fa_nil⟩ dtX11_puts (by decide +kernel)
abbrev cc_X11_puts_380 : scC := (qX11_puts, 0, [((-2147483648), 2147483647)], [.inr (.inr (.inl [0])), .inr (.inr (.inl [519, 520, 521])), .inl (some 0, 0), .inl (none, 1)], [((0, 35), (none, 141))], [(1, ((-2147483648), 2147483647), [], [], [((0, 35), (142, 142))])], [(0, 35, 1)])
set_option maxRecDepth 20000 in
abbrev xx_X11_puts_380 : scX := (Tm, invM, lnX11, [], cc_X11_puts_380)
set_option maxRecDepth 20000 in
theorem hh_X11_puts_380 : scH Tm invM cc_X11_puts_380 := scCheck_ok (X := xx_X11_puts_380) (nodes := []) (fuel := 4000) ⟨lqX11, fa_nil⟩ dtX11_puts (by decide +kernel)
abbrev cc_X11_puts_381 : scC := (qX11_puts, 0, [((-1000), 200)], [.inr (.inr (.inl [0])), .inr (.inr (.inl [519, 520, 521])), .inl (some 0, 0), .inl (none, 1)], [((0, 35), (none, 142))], [(1, ((-1000), 200), [], [], [((0, 35), (143, 143))])], [(0, 35, 1)])
set_option maxRecDepth 20000 in
abbrev xx_X11_puts_381 : scX := (Tm, invM, lnX11, [], cc_X11_puts_381)
set_option maxRecDepth 20000 in
theorem hh_X11_puts_381 : scH Tm invM cc_X11_puts_381 := scCheck_ok (X := xx_X11_puts_381) (nodes := []) (fuel := 4000) ⟨lqX11, fa_nil⟩ dtX11_puts (by decide +kernel)
abbrev cc_X11_puts_382 : scC := (qX11_puts, 0, [((-1000), 200)], [.inr (.inr (.inl [0])), .inr (.inr (.inl [519, 520, 521])), .inl (some 0, 0), .inl (none, 1)], [((0, 35), (none, 143))], [(1, ((-1000), 200), [], [], [((0, 35), (144, 144))])], [(0, 35, 1)])
set_option maxRecDepth 20000 in
abbrev xx_X11_puts_382 : scX := (Tm, invM, lnX11, [], cc_X11_puts_382)
set_option maxRecDepth 20000 in
theorem hh_X11_puts_382 : scH Tm invM cc_X11_puts_382 := scCheck_ok (X := xx_X11_puts_382) (nodes := []) (fuel := 4000) ⟨lqX11, fa_nil⟩ dtX11_puts (by decide +kernel)
abbrev cc_X11_puts_383 : scC := (qX11_puts, 0, [((-1000), 200)], [.inr (.inr (.inl [0])), .inr (.inr (.inl [519, 520, 521])), .inl (some 0, 0), .inl (none, 1)], [((0, 35), (none, 144))], [(1, ((-1000), 200), [], [], [((0, 35), (145, 145))])], [(0, 35, 1)])
set_option maxRecDepth 20000 in
abbrev xx_X11_puts_383 : scX := (Tm, invM, lnX11, [], cc_X11_puts_383)
set_option maxRecDepth 20000 in
theorem hh_X11_puts_383 : scH Tm invM cc_X11_puts_383 := scCheck_ok (X := xx_X11_puts_383) (nodes := []) (fuel := 4000) ⟨lqX11, fa_nil⟩ dtX11_puts (by decide +kernel)
abbrev cc_X11_puts_384 : scC := (qX11_puts, 0, [((-1000), 200)], [.inr (.inr (.inl [0])), .inr (.inr (.inl [519, 520, 521])), .inl (some 0, 0), .inl (none, 1)], [((0, 35), (none, 145))], [(1, ((-1000), 200), [], [], [((0, 35), (146, 146))])], [(0, 35, 1)])
set_option maxRecDepth 20000 in
abbrev xx_X11_puts_384 : scX := (Tm, invM, lnX11, [], cc_X11_puts_384)
set_option maxRecDepth 20000 in
theorem hh_X11_puts_384 : scH Tm invM cc_X11_puts_384 := scCheck_ok (X := xx_X11_puts_384) (nodes := []) (fuel := 4000) ⟨lqX11, fa_nil⟩ dtX11_puts (by decide +kernel)
abbrev cc_X11_puts_385 : scC := (qX11_puts, 0, [((-1000), 200)], [.inr (.inr (.inl [0])), .inr (.inr (.inl [519, 520, 521])), .inl (some 0, 0), .inl (none, 1)], [((0, 35), (none, 146))], [(1, ((-1000), 200), [], [], [((0, 35), (147, 147))])], [(0, 35, 1)])
set_option maxRecDepth 20000 in
abbrev xx_X11_puts_385 : scX := (Tm, invM, lnX11, [], cc_X11_puts_385)
set_option maxRecDepth 20000 in
theorem hh_X11_puts_385 : scH Tm invM cc_X11_puts_385 := scCheck_ok (X := xx_X11_puts_385) (nodes := []) (fuel := 4000) ⟨lqX11, fa_nil⟩ dtX11_puts (by decide +kernel)
abbrev cc_X11_puts_386 : scC := (qX11_puts, 0, [((-1000), 200)], [.inr (.inr (.inl [0])), .inr (.inr (.inl [519, 520, 521])), .inl (some 0, 0), .inl (none, 1)], [((0, 35), (none, 147))], [(1, ((-1000), 200), [], [], [((0, 35), (148, 148))])], [(0, 35, 1)])
set_option maxRecDepth 20000 in
abbrev xx_X11_puts_386 : scX := (Tm, invM, lnX11, [], cc_X11_puts_386)
set_option maxRecDepth 20000 in
theorem hh_X11_puts_386 : scH Tm invM cc_X11_puts_386 := scCheck_ok (X := xx_X11_puts_386) (nodes := []) (fuel := 4000) ⟨lqX11, fa_nil⟩ dtX11_puts (by decide +kernel)
abbrev cc_X11_puts_387 : scC := (qX11_puts, 0, [((-1000), 200)], [.inr (.inr (.inl [0])), .inr (.inr (.inl [519, 520, 521])), .inl (some 0, 0), .inl (none, 1)], [((0, 35), (none, 148))], [(1, ((-1000), 200), [], [], [((0, 35), (149, 149))])], [(0, 35, 1)])
set_option maxRecDepth 20000 in
abbrev xx_X11_puts_387 : scX := (Tm, invM, lnX11, [], cc_X11_puts_387)
set_option maxRecDepth 20000 in
theorem hh_X11_puts_387 : scH Tm invM cc_X11_puts_387 := scCheck_ok (X := xx_X11_puts_387) (nodes := []) (fuel := 4000) ⟨lqX11, fa_nil⟩ dtX11_puts (by decide +kernel)
abbrev cc_X11_puts_388 : scC := (qX11_puts, 0, [((-1000), 200)], [.inr (.inr (.inl [0])), .inr (.inr (.inl [519, 520, 521])), .inl (some 0, 0), .inl (none, 1)], [((0, 35), (none, 149))], [(1, ((-1000), 200), [], [], [((0, 35), (150, 150))])], [(0, 35, 1)])
set_option maxRecDepth 20000 in
abbrev xx_X11_puts_388 : scX := (Tm, invM, lnX11, [], cc_X11_puts_388)
set_option maxRecDepth 20000 in
theorem hh_X11_puts_388 : scH Tm invM cc_X11_puts_388 := scCheck_ok (X := xx_X11_puts_388) (nodes := []) (fuel := 4000) ⟨lqX11, fa_nil⟩ dtX11_puts (by decide +kernel)
abbrev cc_X11_puts_389 : scC := (qX11_puts, 0, [(0, 12)], [.inr (.inr (.inl [0])), .inr (.inr (.inl [519, 520, 521])), .inl (some 0, 0), .inl (none, 1)], [((0, 35), (none, 150))], [(1, (0, 12), [], [], [((0, 35), (151, 151))])], [(0, 35, 1)])
set_option maxRecDepth 20000 in
abbrev xx_X11_puts_389 : scX := (Tm, invM, lnX11, [], cc_X11_puts_389)
set_option maxRecDepth 20000 in
theorem hh_X11_puts_389 : scH Tm invM cc_X11_puts_389 := scCheck_ok (X := xx_X11_puts_389) (nodes := []) (fuel := 4000) ⟨lqX11, fa_nil⟩ dtX11_puts (by decide +kernel)
abbrev cc_X11_puts_390 : scC := (qX11_puts, 0, [(0, 200)], [.inr (.inr (.inl [0])), .inr (.inr (.inl [519, 520, 521])), .inl (some 0, 0), .inl (none, 1)], [((0, 35), (none, 151))], [(1, (0, 200), [], [], [((0, 35), (152, 152))])], [(0, 35, 1)])
set_option maxRecDepth 20000 in
abbrev xx_X11_puts_390 : scX := (Tm, invM, lnX11, [], cc_X11_puts_390)
set_option maxRecDepth 20000 in
theorem hh_X11_puts_390 : scH Tm invM cc_X11_puts_390 := scCheck_ok (X := xx_X11_puts_390) (nodes := []) (fuel := 4000) ⟨lqX11, fa_nil⟩ dtX11_puts (by decide +kernel)
abbrev cc_X11_puts_391 : scC := (qX11_puts, 0, [((-2147483648), 2147483647)], [.inr (.inr (.inl [0])), .inr (.inr (.inl [519, 520, 521])), .inl (some 0, 0), .inl (none, 1)], [((0, 35), (none, 152))], [(1, ((-2147483648), 2147483647), [], [], [((0, 35), (153, 153))])], [(0, 35, 1)])
set_option maxRecDepth 20000 in
abbrev xx_X11_puts_391 : scX := (Tm, invM, lnX11, [], cc_X11_puts_391)
set_option maxRecDepth 20000 in
theorem hh_X11_puts_391 : scH Tm invM cc_X11_puts_391 := scCheck_ok (X := xx_X11_puts_391) (nodes := []) (fuel := 4000) ⟨lqX11, fa_nil⟩ dtX11_puts (by decide +kernel)
abbrev cc_X11_puts_392 : scC := (qX11_puts, 0, [((-2147483648), 2147483647)], [.inr (.inr (.inl [0])), .inr (.inr (.inl [519, 520, 521])), .inl (some 0, 0), .inl (none, 1)], [((0, 35), (none, 153))], [(1, ((-2147483648), 2147483647), [], [], [((0, 35), (154, 154))])], [(0, 35, 1)])
set_option maxRecDepth 20000 in
abbrev xx_X11_puts_392 : scX := (Tm, invM, lnX11, [], cc_X11_puts_392)
set_option maxRecDepth 20000 in
theorem hh_X11_puts_392 : scH Tm invM cc_X11_puts_392 := scCheck_ok (X := xx_X11_puts_392) (nodes := []) (fuel := 4000) ⟨lqX11, fa_nil⟩ dtX11_puts (by decide +kernel)
abbrev cc_X11_puts_393 : scC := (qX11_puts, 0, [((-2147483648), 2147483647)], [.inr (.inr (.inl [0])), .inr (.inr (.inl [519, 520, 521])), .inl (some 0, 0), .inl (none, 1)], [((0, 35), (none, 154))], [(1, ((-2147483648), 2147483647), [], [], [((0, 35), (155, 155))])], [(0, 35, 1)])
set_option maxRecDepth 20000 in
abbrev xx_X11_puts_393 : scX := (Tm, invM, lnX11, [], cc_X11_puts_393)
set_option maxRecDepth 20000 in
theorem hh_X11_puts_393 : scH Tm invM cc_X11_puts_393 := scCheck_ok (X := xx_X11_puts_393) (nodes := []) (fuel := 4000) ⟨lqX11, fa_nil⟩ dtX11_puts (by decide +kernel)
abbrev cc_X11_puts_394 : scC := (qX11_puts, 0, [((-2147483648), 2147483647)], [.inr (.inr (.inl [0])), .inr (.inr (.inl [519, 520, 521])), .inl (some 0, 0), .inl (none, 1)], [((0, 35), (none, 155))], [(1, ((-2147483648), 2147483647), [], [], [((0, 35), (156, 156))])], [(0, 35, 1)])
set_option maxRecDepth 20000 in
abbrev xx_X11_puts_394 : scX := (Tm, invM, lnX11, [], cc_X11_puts_394)
set_option maxRecDepth 20000 in
theorem hh_X11_puts_394 : scH Tm invM cc_X11_puts_394 := scCheck_ok (X := xx_X11_puts_394) (nodes := []) (fuel := 4000) ⟨lqX11, fa_nil⟩ dtX11_puts (by decide +kernel)
abbrev cc_X11_puts_395 : scC := (qX11_puts, 0, [((-1000), 200)], [.inr (.inr (.inl [0])), .inr (.inr (.inl [519, 520, 521])), .inl (some 0, 0), .inl (none, 1)], [((0, 35), (none, 156))], [(1, ((-1000), 200), [], [], [((0, 35), (157, 157))])], [(0, 35, 1)])
set_option maxRecDepth 20000 in
abbrev xx_X11_puts_395 : scX := (Tm, invM, lnX11, [], cc_X11_puts_395)
set_option maxRecDepth 20000 in
theorem hh_X11_puts_395 : scH Tm invM cc_X11_puts_395 := scCheck_ok (X := xx_X11_puts_395) (nodes := []) (fuel := 4000) ⟨lqX11, fa_nil⟩ dtX11_puts (by decide +kernel)
abbrev cc_X11_puts_396 : scC := (qX11_puts, 0, [((-1000), 200)], [.inr (.inr (.inl [0])), .inr (.inr (.inl [519, 520, 521])), .inl (some 0, 0), .inl (none, 1)], [((0, 35), (none, 157))], [(1, ((-1000), 200), [], [], [((0, 35), (158, 158))])], [(0, 35, 1)])
set_option maxRecDepth 20000 in
abbrev xx_X11_puts_396 : scX := (Tm, invM, lnX11, [], cc_X11_puts_396)
set_option maxRecDepth 20000 in
theorem hh_X11_puts_396 : scH Tm invM cc_X11_puts_396 := scCheck_ok (X := xx_X11_puts_396) (nodes := []) (fuel := 4000) ⟨lqX11, fa_nil⟩ dtX11_puts (by decide +kernel)
abbrev cc_X11_puts_397 : scC := (qX11_puts, 0, [((-1000), 200)], [.inr (.inr (.inl [0])), .inr (.inr (.inl [519, 520, 521])), .inl (some 0, 0), .inl (none, 1)], [((0, 35), (none, 158))], [(1, ((-1000), 200), [], [], [((0, 35), (159, 159))])], [(0, 35, 1)])
set_option maxRecDepth 20000 in
abbrev xx_X11_puts_397 : scX := (Tm, invM, lnX11, [], cc_X11_puts_397)
set_option maxRecDepth 20000 in
theorem hh_X11_puts_397 : scH Tm invM cc_X11_puts_397 := scCheck_ok (X := xx_X11_puts_397) (nodes := []) (fuel := 4000) ⟨lqX11, fa_nil⟩ dtX11_puts (by decide +kernel)
abbrev cc_X11_puts_398 : scC := (qX11_puts, 0, [((-1000), 200)], [.inr (.inr (.inl [0])), .inr (.inr (.inl [519, 520, 521])), .inl (some 0, 0), .inl (none, 1)], [((0, 35), (none, 159))], [(1, ((-1000), 200), [], [], [((0, 35), (160, 160))])], [(0, 35, 1)])
set_option maxRecDepth 20000 in
abbrev xx_X11_puts_398 : scX := (Tm, invM, lnX11, [], cc_X11_puts_398)
set_option maxRecDepth 20000 in
theorem hh_X11_puts_398 : scH Tm invM cc_X11_puts_398 := scCheck_ok (X := xx_X11_puts_398) (nodes := []) (fuel := 4000) ⟨lqX11, fa_nil⟩ dtX11_puts (by decide +kernel)
abbrev cc_X11_puts_399 : scC := (qX11_puts, 0, [((-1000), 200)], [.inr (.inr (.inl [0])), .inr (.inr (.inl [519, 520, 521])), .inl (some 0, 0), .inl (none, 1)], [((0, 35), (none, 160))], [(1, ((-1000), 200), [], [], [((0, 35), (161, 161))])], [(0, 35, 1)])
set_option maxRecDepth 20000 in
abbrev xx_X11_puts_399 : scX := (Tm, invM, lnX11, [], cc_X11_puts_399)
set_option maxRecDepth 20000 in
theorem hh_X11_puts_399 : scH Tm invM cc_X11_puts_399 := scCheck_ok (X := xx_X11_puts_399) (nodes := []) (fuel := 4000) ⟨lqX11, fa_nil⟩ dtX11_puts (by decide +kernel)
abbrev cc_X11_puts_400 : scC := (qX11_puts, 0, [((-1000), 200)], [.inr (.inr (.inl [0])), .inr (.inr (.inl [519, 520, 521])), .inl (some 0, 0), .inl (none, 1)], [((0, 35), (none, 161))], [(1, ((-1000), 200), [], [], [((0, 35), (162, 162))])], [(0, 35, 1)])
set_option maxRecDepth 20000 in
abbrev xx_X11_puts_400 : scX := (Tm, invM, lnX11, [], cc_X11_puts_400)
set_option maxRecDepth 20000 in
theorem hh_X11_puts_400 : scH Tm invM cc_X11_puts_400 := scCheck_ok (X := xx_X11_puts_400) (nodes := []) (fuel := 4000) ⟨lqX11, fa_nil⟩ dtX11_puts (by decide +kernel)
abbrev cc_X11_puts_401 : scC := (qX11_puts, 0, [((-1000), 200)], [.inr (.inr (.inl [0])), .inr (.inr (.inl [519, 520, 521])), .inl (some 0, 0), .inl (none, 1)], [((0, 35), (none, 162))], [(1, ((-1000), 200), [], [], [((0, 35), (163, 163))])], [(0, 35, 1)])
set_option maxRecDepth 20000 in
abbrev xx_X11_puts_401 : scX := (Tm, invM, lnX11, [], cc_X11_puts_401)
set_option maxRecDepth 20000 in
theorem hh_X11_puts_401 : scH Tm invM cc_X11_puts_401 := scCheck_ok (X := xx_X11_puts_401) (nodes := []) (fuel := 4000) ⟨lqX11, fa_nil⟩ dtX11_puts (by decide +kernel)
abbrev cc_X11_puts_402 : scC := (qX11_puts, 0, [((-1000), 200)], [.inr (.inr (.inl [0])), .inr (.inr (.inl [519, 520, 521])), .inl (some 0, 0), .inl (none, 1)], [((0, 35), (none, 163))], [(1, ((-1000), 200), [], [], [((0, 35), (164, 164))])], [(0, 35, 1)])
set_option maxRecDepth 20000 in
abbrev xx_X11_puts_402 : scX := (Tm, invM, lnX11, [], cc_X11_puts_402)
set_option maxRecDepth 20000 in
theorem hh_X11_puts_402 : scH Tm invM cc_X11_puts_402 := scCheck_ok (X := xx_X11_puts_402) (nodes := []) (fuel := 4000) ⟨lqX11, fa_nil⟩ dtX11_puts (by decide +kernel)
abbrev cc_X11_puts_403 : scC := (qX11_puts, 0, [(0, 12)], [.inr (.inr (.inl [0])), .inr (.inr (.inl [519, 520, 521])), .inl (some 0, 0), .inl (none, 1)], [((0, 35), (none, 164))], [(1, (0, 12), [], [], [((0, 35), (165, 165))])], [(0, 35, 1)])
set_option maxRecDepth 20000 in
abbrev xx_X11_puts_403 : scX := (Tm, invM, lnX11, [], cc_X11_puts_403)
set_option maxRecDepth 20000 in
theorem hh_X11_puts_403 : scH Tm invM cc_X11_puts_403 := scCheck_ok (X := xx_X11_puts_403) (nodes := []) (fuel := 4000) ⟨lqX11, fa_nil⟩ dtX11_puts (by decide +kernel)
abbrev cc_X11_puts_404 : scC := (qX11_puts, 0, [(0, 200)], [.inr (.inr (.inl [0])), .inr (.inr (.inl [519, 520, 521])), .inl (some 0, 0), .inl (none, 1)], [((0, 35), (none, 165))], [(1, (0, 200), [], [], [((0, 35), (166, 166))])], [(0, 35, 1)])
set_option maxRecDepth 20000 in
abbrev xx_X11_puts_404 : scX := (Tm, invM, lnX11, [], cc_X11_puts_404)
set_option maxRecDepth 20000 in
theorem hh_X11_puts_404 : scH Tm invM cc_X11_puts_404 := scCheck_ok (X := xx_X11_puts_404) (nodes := []) (fuel := 4000) ⟨lqX11, fa_nil⟩ dtX11_puts (by decide +kernel)
abbrev cc_X11_puts_405 : scC := (qX11_puts, 0, [((-2147483648), 2147483647)], [.inr (.inr (.inl [0])), .inr (.inr (.inl [519, 520, 521])), .inl (some 0, 0), .inl (none, 1)], [((0, 35), (none, 166))], [(1, ((-2147483648), 2147483647), [], [], [((0, 35), (167, 167))])], [(0, 35, 1)])
set_option maxRecDepth 20000 in
abbrev xx_X11_puts_405 : scX := (Tm, invM, lnX11, [], cc_X11_puts_405)
set_option maxRecDepth 20000 in
theorem hh_X11_puts_405 : scH Tm invM cc_X11_puts_405 := scCheck_ok (X := xx_X11_puts_405) (nodes := []) (fuel := 4000) ⟨lqX11, fa_nil⟩ dtX11_puts (by decide +kernel)
abbrev cc_X11_puts_406 : scC := (qX11_puts, 0, [((-2147483648), 2147483647)], [.inr (.inr (.inl [0])), .inr (.inr (.inl [519, 520, 521])), .inl (some 0, 0), .inl (none, 1)], [((0, 35), (none, 167))], [(1, ((-2147483648), 2147483647), [], [], [((0, 35), (168, 168))])], [(0, 35, 1)])
set_option maxRecDepth 20000 in
abbrev xx_X11_puts_406 : scX := (Tm, invM, lnX11, [], cc_X11_puts_406)
set_option maxRecDepth 20000 in
theorem hh_X11_puts_406 : scH Tm invM cc_X11_puts_406 := scCheck_ok (X := xx_X11_puts_406) (nodes := []) (fuel := 4000) ⟨lqX11, fa_nil⟩ dtX11_puts (by decide +kernel)
abbrev cc_X11_puts_407 : scC := (qX11_puts, 0, [((-2147483648), 2147483647)], [.inr (.inr (.inl [0])), .inr (.inr (.inl [519, 520, 521])), .inl (some 0, 0), .inl (none, 1)], [((0, 35), (none, 168))], [(1, ((-2147483648), 2147483647), [], [], [((0, 35), (169, 169))])], [(0, 35, 1)])
set_option maxRecDepth 20000 in
abbrev xx_X11_puts_407 : scX := (Tm, invM, lnX11, [], cc_X11_puts_407)
set_option maxRecDepth 20000 in
theorem hh_X11_puts_407 : scH Tm invM cc_X11_puts_407 := scCheck_ok (X := xx_X11_puts_407) (nodes := []) (fuel := 4000) ⟨lqX11, fa_nil⟩ dtX11_puts (by decide +kernel)
abbrev cc_X11_puts_408 : scC := (qX11_puts, 0, [((-2147483648), 2147483647)], [.inr (.inr (.inl [0])), .inr (.inr (.inl [519, 520, 521])), .inl (some 0, 0), .inl (none, 1)], [((0, 35), (none, 169))], [(1, ((-2147483648), 2147483647), [], [], [((0, 35), (170, 170))])], [(0, 35, 1)])
set_option maxRecDepth 20000 in
abbrev xx_X11_puts_408 : scX := (Tm, invM, lnX11, [], cc_X11_puts_408)
set_option maxRecDepth 20000 in
theorem hh_X11_puts_408 : scH Tm invM cc_X11_puts_408 := scCheck_ok (X := xx_X11_puts_408) (nodes := []) (fuel := 4000) ⟨lqX11, fa_nil⟩ dtX11_puts (by decide +kernel)
abbrev cc_X11_puts_409 : scC := (qX11_puts, 0, [((-1000), 200)], [.inr (.inr (.inl [0])), .inr (.inr (.inl [519, 520, 521])), .inl (some 0, 0), .inl (none, 1)], [((0, 35), (none, 170))], [(1, ((-1000), 200), [], [], [((0, 35), (171, 171))])], [(0, 35, 1)])
set_option maxRecDepth 20000 in
abbrev xx_X11_puts_409 : scX := (Tm, invM, lnX11, [], cc_X11_puts_409)
set_option maxRecDepth 20000 in
theorem hh_X11_puts_409 : scH Tm invM cc_X11_puts_409 := scCheck_ok (X := xx_X11_puts_409) (nodes := []) (fuel := 4000) ⟨lqX11, fa_nil⟩ dtX11_puts (by decide +kernel)
abbrev cc_X11_puts_410 : scC := (qX11_puts, 0, [((-1000), 200)], [.inr (.inr (.inl [0])), .inr (.inr (.inl [519, 520, 521])), .inl (some 0, 0), .inl (none, 1)], [((0, 35), (none, 171))], [(1, ((-1000), 200), [], [], [((0, 35), (172, 172))])], [(0, 35, 1)])
set_option maxRecDepth 20000 in
abbrev xx_X11_puts_410 : scX := (Tm, invM, lnX11, [], cc_X11_puts_410)
set_option maxRecDepth 20000 in
theorem hh_X11_puts_410 : scH Tm invM cc_X11_puts_410 := scCheck_ok (X := xx_X11_puts_410) (nodes := []) (fuel := 4000) ⟨lqX11, fa_nil⟩ dtX11_puts (by decide +kernel)
abbrev cc_X11_puts_411 : scC := (qX11_puts, 0, [((-1000), 200)], [.inr (.inr (.inl [0])), .inr (.inr (.inl [519, 520, 521])), .inl (some 0, 0), .inl (none, 1)], [((0, 35), (none, 172))], [(1, ((-1000), 200), [], [], [((0, 35), (173, 173))])], [(0, 35, 1)])
set_option maxRecDepth 20000 in
abbrev xx_X11_puts_411 : scX := (Tm, invM, lnX11, [], cc_X11_puts_411)
set_option maxRecDepth 20000 in
theorem hh_X11_puts_411 : scH Tm invM cc_X11_puts_411 := scCheck_ok (X := xx_X11_puts_411) (nodes := []) (fuel := 4000) ⟨lqX11, fa_nil⟩ dtX11_puts (by decide +kernel)
abbrev cc_X11_puts_412 : scC := (qX11_puts, 0, [((-1000), 200)], [.inr (.inr (.inl [0])), .inr (.inr (.inl [519, 520, 521])), .inl (some 0, 0), .inl (none, 1)], [((0, 35), (none, 173))], [(1, ((-1000), 200), [], [], [((0, 35), (174, 174))])], [(0, 35, 1)])
set_option maxRecDepth 20000 in
abbrev xx_X11_puts_412 : scX := (Tm, invM, lnX11, [], cc_X11_puts_412)
set_option maxRecDepth 20000 in
theorem hh_X11_puts_412 : scH Tm invM cc_X11_puts_412 := scCheck_ok (X := xx_X11_puts_412) (nodes := []) (fuel := 4000) ⟨lqX11, fa_nil⟩ dtX11_puts (by decide +kernel)
abbrev cc_X11_puts_413 : scC := (qX11_puts, 0, [((-1000), 200)], [.inr (.inr (.inl [0])), .inr (.inr (.inl [519, 520, 521])), .inl (some 0, 0), .inl (none, 1)], [((0, 35), (none, 174))], [(1, ((-1000), 200), [], [], [((0, 35), (175, 175))])], [(0, 35, 1)])
set_option maxRecDepth 20000 in
abbrev xx_X11_puts_413 : scX := (Tm, invM, lnX11, [], cc_X11_puts_413)
set_option maxRecDepth 20000 in
theorem hh_X11_puts_413 : scH Tm invM cc_X11_puts_413 := scCheck_ok (X := xx_X11_puts_413) (nodes := []) (fuel := 4000) ⟨lqX11, fa_nil⟩ dtX11_puts (by decide +kernel)
abbrev cc_X11_puts_414 : scC := (qX11_puts, 0, [((-1000), 200)], [.inr (.inr (.inl [0])), .inr (.inr (.inl [519, 520, 521])), .inl (some 0, 0), .inl (none, 1)], [((0, 35), (none, 175))], [(1, ((-1000), 200), [], [], [((0, 35), (176, 176))])], [(0, 35, 1)])
set_option maxRecDepth 20000 in
abbrev xx_X11_puts_414 : scX := (Tm, invM, lnX11, [], cc_X11_puts_414)
set_option maxRecDepth 20000 in
theorem hh_X11_puts_414 : scH Tm invM cc_X11_puts_414 := scCheck_ok (X := xx_X11_puts_414) (nodes := []) (fuel := 4000) ⟨lqX11, fa_nil⟩ dtX11_puts (by decide +kernel)
abbrev cc_X11_puts_415 : scC := (qX11_puts, 0, [((-1000), 200)], [.inr (.inr (.inl [0])), .inr (.inr (.inl [519, 520, 521])), .inl (some 0, 0), .inl (none, 1)], [((0, 35), (none, 176))], [(1, ((-1000), 200), [], [], [((0, 35), (177, 177))])], [(0, 35, 1)])
set_option maxRecDepth 20000 in
abbrev xx_X11_puts_415 : scX := (Tm, invM, lnX11, [], cc_X11_puts_415)
set_option maxRecDepth 20000 in
theorem hh_X11_puts_415 : scH Tm invM cc_X11_puts_415 := scCheck_ok (X := xx_X11_puts_415) (nodes := []) (fuel := 4000) ⟨lqX11, fa_nil⟩ dtX11_puts (by decide +kernel)
abbrev cc_X11_puts_416 : scC := (qX11_puts, 0, [((-1000), 200)], [.inr (.inr (.inl [0])), .inr (.inr (.inl [519, 520, 521])), .inl (some 0, 0), .inl (none, 1)], [((0, 35), (none, 177))], [(1, ((-1000), 200), [], [], [((0, 35), (178, 178))])], [(0, 35, 1)])
set_option maxRecDepth 20000 in
abbrev xx_X11_puts_416 : scX := (Tm, invM, lnX11, [], cc_X11_puts_416)
set_option maxRecDepth 20000 in
theorem hh_X11_puts_416 : scH Tm invM cc_X11_puts_416 := scCheck_ok (X := xx_X11_puts_416) (nodes := []) (fuel := 4000) ⟨lqX11, fa_nil⟩ dtX11_puts (by decide +kernel)
abbrev cc_X11_puts_417 : scC := (qX11_puts, 0, [(0, 12)], [.inr (.inr (.inl [0])), .inr (.inr (.inl [519, 520, 521])), .inl (some 0, 0), .inl (none, 1)], [((0, 35), (none, 178))], [(1, (0, 12), [], [], [((0, 35), (179, 179))])], [(0, 35, 1)])
set_option maxRecDepth 20000 in
abbrev xx_X11_puts_417 : scX := (Tm, invM, lnX11, [], cc_X11_puts_417)
set_option maxRecDepth 20000 in
theorem hh_X11_puts_417 : scH Tm invM cc_X11_puts_417 := scCheck_ok (X := xx_X11_puts_417) (nodes := []) (fuel := 4000) ⟨lqX11, fa_nil⟩ dtX11_puts (by decide +kernel)
abbrev cc_X11_puts_418 : scC := (qX11_puts, 0, [(0, 200)], [.inr (.inr (.inl [0])), .inr (.inr (.inl [519, 520, 521])), .inl (some 0, 0), .inl (none, 1)], [((0, 35), (none, 179))], [(1, (0, 200), [], [], [((0, 35), (180, 180))])], [(0, 35, 1)])
set_option maxRecDepth 20000 in
abbrev xx_X11_puts_418 : scX := (Tm, invM, lnX11, [], cc_X11_puts_418)
set_option maxRecDepth 20000 in
theorem hh_X11_puts_418 : scH Tm invM cc_X11_puts_418 := scCheck_ok (X := xx_X11_puts_418) (nodes := []) (fuel := 4000) ⟨lqX11, fa_nil⟩ dtX11_puts (by decide +kernel)
abbrev cc_X11_puts_419 : scC := (qX11_puts, 0, [((-2147483648), 2147483647)], [.inr (.inr (.inl [0])), .inr (.inr (.inl [519, 520, 521])), .inl (some 0, 0), .inl (none, 1)], [((0, 35), (none, 180))], [(1, ((-2147483648), 2147483647), [], [], [((0, 35), (181, 181))])], [(0, 35, 1)])
set_option maxRecDepth 20000 in
abbrev xx_X11_puts_419 : scX := (Tm, invM, lnX11, [], cc_X11_puts_419)
set_option maxRecDepth 20000 in
theorem hh_X11_puts_419 : scH Tm invM cc_X11_puts_419 := scCheck_ok (X := xx_X11_puts_419) (nodes := []) (fuel := 4000) ⟨lqX11, fa_nil⟩ dtX11_puts (by decide +kernel)
abbrev cc_X11_puts_420 : scC := (qX11_puts, 0, [((-2147483648), 2147483647)], [.inr (.inr (.inl [0])), .inr (.inr (.inl [519, 520, 521])), .inl (some 0, 0), .inl (none, 1)], [((0, 35), (none, 181))], [(1, ((-2147483648), 2147483647), [], [], [((0, 35), (182, 182))])], [(0, 35, 1)])
set_option maxRecDepth 20000 in
abbrev xx_X11_puts_420 : scX := (Tm, invM, lnX11, [], cc_X11_puts_420)
set_option maxRecDepth 20000 in
theorem hh_X11_puts_420 : scH Tm invM cc_X11_puts_420 := scCheck_ok (X := xx_X11_puts_420) (nodes := []) (fuel := 4000) ⟨lqX11, fa_nil⟩ dtX11_puts (by decide +kernel)
abbrev cc_X11_puts_421 : scC := (qX11_puts, 0, [((-2147483648), 2147483647)], [.inr (.inr (.inl [0])), .inr (.inr (.inl [519, 520, 521])), .inl (some 0, 0), .inl (none, 1)], [((0, 35), (none, 182))], [(1, ((-2147483648), 2147483647), [], [], [((0, 35), (183, 183))])], [(0, 35, 1)])
set_option maxRecDepth 20000 in
abbrev xx_X11_puts_421 : scX := (Tm, invM, lnX11, [], cc_X11_puts_421)
set_option maxRecDepth 20000 in
theorem hh_X11_puts_421 : scH Tm invM cc_X11_puts_421 := scCheck_ok (X := xx_X11_puts_421) (nodes := []) (fuel := 4000) ⟨lqX11, fa_nil⟩ dtX11_puts (by decide +kernel)
abbrev cc_X11_puts_422 : scC := (qX11_puts, 0, [((-2147483648), 2147483647)], [.inr (.inr (.inl [0])), .inr (.inr (.inl [519, 520, 521])), .inl (some 0, 0), .inl (none, 1)], [((0, 35), (none, 183))], [(1, ((-2147483648), 2147483647), [], [], [((0, 35), (184, 184))])], [(0, 35, 1)])
set_option maxRecDepth 20000 in
abbrev xx_X11_puts_422 : scX := (Tm, invM, lnX11, [], cc_X11_puts_422)
set_option maxRecDepth 20000 in
theorem hh_X11_puts_422 : scH Tm invM cc_X11_puts_422 := scCheck_ok (X := xx_X11_puts_422) (nodes := []) (fuel := 4000) ⟨lqX11, fa_nil⟩ dtX11_puts (by decide +kernel)
abbrev cc_X11_puts_423 : scC := (qX11_puts, 0, [((-1000), 200)], [.inr (.inr (.inl [0])), .inr (.inr (.inl [519, 520, 521])), .inl (some 0, 0), .inl (none, 1)], [((0, 35), (none, 184))], [(1, ((-1000), 200), [], [], [((0, 35), (185, 185))])], [(0, 35, 1)])
set_option maxRecDepth 20000 in
abbrev xx_X11_puts_423 : scX := (Tm, invM, lnX11, [], cc_X11_puts_423)
set_option maxRecDepth 20000 in
theorem hh_X11_puts_423 : scH Tm invM cc_X11_puts_423 := scCheck_ok (X := xx_X11_puts_423) (nodes := []) (fuel := 4000) ⟨lqX11, fa_nil⟩ dtX11_puts (by decide +kernel)
abbrev cc_X11_puts_424 : scC := (qX11_puts, 0, [((-1000), 200)], [.inr (.inr (.inl [0])), .inr (.inr (.inl [519, 520, 521])), .inl (some 0, 0), .inl (none, 1)], [((0, 35), (none, 185))], [(1, ((-1000), 200), [], [], [((0, 35), (186, 186))])], [(0, 35, 1)])
set_option maxRecDepth 20000 in
abbrev xx_X11_puts_424 : scX := (Tm, invM, lnX11, [], cc_X11_puts_424)
set_option maxRecDepth 20000 in
theorem hh_X11_puts_424 : scH Tm invM cc_X11_puts_424 := scCheck_ok (X := xx_X11_puts_424) (nodes := []) (fuel := 4000) ⟨lqX11, fa_nil⟩ dtX11_puts (by decide +kernel)
abbrev cc_X11_puts_425 : scC := (qX11_puts, 0, [((-1000), 200)], [.inr (.inr (.inl [0])), .inr (.inr (.inl [519, 520, 521])), .inl (some 0, 0), .inl (none, 1)], [((0, 35), (none, 186))], [(1, ((-1000), 200), [], [], [((0, 35), (187, 187))])], [(0, 35, 1)])
set_option maxRecDepth 20000 in
abbrev xx_X11_puts_425 : scX := (Tm, invM, lnX11, [], cc_X11_puts_425)
set_option maxRecDepth 20000 in
theorem hh_X11_puts_425 : scH Tm invM cc_X11_puts_425 := scCheck_ok (X := xx_X11_puts_425) (nodes := []) (fuel := 4000) ⟨lqX11, fa_nil⟩ dtX11_puts (by decide +kernel)
abbrev cc_X11_puts_426 : scC := (qX11_puts, 0, [((-1000), 200)], [.inr (.inr (.inl [0])), .inr (.inr (.inl [519, 520, 521])), .inl (some 0, 0), .inl (none, 1)], [((0, 35), (none, 187))], [(1, ((-1000), 200), [], [], [((0, 35), (188, 188))])], [(0, 35, 1)])
set_option maxRecDepth 20000 in
abbrev xx_X11_puts_426 : scX := (Tm, invM, lnX11, [], cc_X11_puts_426)
set_option maxRecDepth 20000 in
theorem hh_X11_puts_426 : scH Tm invM cc_X11_puts_426 := scCheck_ok (X := xx_X11_puts_426) (nodes := []) (fuel := 4000) ⟨lqX11, fa_nil⟩ dtX11_puts (by decide +kernel)
abbrev cc_X11_puts_427 : scC := (qX11_puts, 0, [((-1000), 200)], [.inr (.inr (.inl [0])), .inr (.inr (.inl [519, 520, 521])), .inl (some 0, 0), .inl (none, 1)], [((0, 35), (none, 188))], [(1, ((-1000), 200), [], [], [((0, 35), (189, 189))])], [(0, 35, 1)])
set_option maxRecDepth 20000 in
abbrev xx_X11_puts_427 : scX := (Tm, invM, lnX11, [], cc_X11_puts_427)
set_option maxRecDepth 20000 in
theorem hh_X11_puts_427 : scH Tm invM cc_X11_puts_427 := scCheck_ok (X := xx_X11_puts_427) (nodes := []) (fuel := 4000) ⟨lqX11, fa_nil⟩ dtX11_puts (by decide +kernel)
abbrev cc_X11_puts_428 : scC := (qX11_puts, 0, [((-1000), 200)], [.inr (.inr (.inl [0])), .inr (.inr (.inl [519, 520, 521])), .inl (some 0, 0), .inl (none, 1)], [((0, 35), (none, 189))], [(1, ((-1000), 200), [], [], [((0, 35), (190, 190))])], [(0, 35, 1)])
set_option maxRecDepth 20000 in
abbrev xx_X11_puts_428 : scX := (Tm, invM, lnX11, [], cc_X11_puts_428)
set_option maxRecDepth 20000 in
theorem hh_X11_puts_428 : scH Tm invM cc_X11_puts_428 := scCheck_ok (X := xx_X11_puts_428) (nodes := []) (fuel := 4000) ⟨lqX11, fa_nil⟩ dtX11_puts (by decide +kernel)
abbrev cc_X11_puts_429 : scC := (qX11_puts, 0, [((-1000), 200)], [.inr (.inr (.inl [0])), .inr (.inr (.inl [519, 520, 521])), .inl (some 0, 0), .inl (none, 1)], [((0, 35), (none, 190))], [(1, ((-1000), 200), [], [], [((0, 35), (191, 191))])], [(0, 35, 1)])
set_option maxRecDepth 20000 in
abbrev xx_X11_puts_429 : scX := (Tm, invM, lnX11, [], cc_X11_puts_429)
set_option maxRecDepth 20000 in
theorem hh_X11_puts_429 : scH Tm invM cc_X11_puts_429 := scCheck_ok (X := xx_X11_puts_429) (nodes := []) (fuel := 4000) ⟨lqX11, fa_nil⟩ dtX11_puts (by decide +kernel)
abbrev cc_X11_puts_430 : scC := (qX11_puts, 0, [((-1000), 200)], [.inr (.inr (.inl [0])), .inr (.inr (.inl [519, 520, 521])), .inl (some 0, 0), .inl (none, 1)], [((0, 35), (none, 191))], [(1, ((-1000), 200), [], [], [((0, 35), (192, 192))])], [(0, 35, 1)])
set_option maxRecDepth 20000 in
abbrev xx_X11_puts_430 : scX := (Tm, invM, lnX11, [], cc_X11_puts_430)
set_option maxRecDepth 20000 in
theorem hh_X11_puts_430 : scH Tm invM cc_X11_puts_430 := scCheck_ok (X := xx_X11_puts_430) (nodes := []) (fuel := 4000) ⟨lqX11, fa_nil⟩ dtX11_puts (by decide +kernel)
abbrev cc_X11_puts_431 : scC := (qX11_puts, 0, [(0, 12)], [.inr (.inr (.inl [0])), .inr (.inr (.inl [519, 520, 521])), .inl (some 0, 0), .inl (none, 1)], [((0, 35), (none, 192))], [(1, (0, 12), [], [], [((0, 35), (193, 193))])], [(0, 35, 1)])
set_option maxRecDepth 20000 in
abbrev xx_X11_puts_431 : scX := (Tm, invM, lnX11, [], cc_X11_puts_431)
set_option maxRecDepth 20000 in
theorem hh_X11_puts_431 : scH Tm invM cc_X11_puts_431 := scCheck_ok (X := xx_X11_puts_431) (nodes := []) (fuel := 4000) ⟨lqX11, fa_nil⟩ dtX11_puts (by decide +kernel)
abbrev cc_X11_puts_432 : scC := (qX11_puts, 0, [(0, 200)], [.inr (.inr (.inl [0])), .inr (.inr (.inl [519, 520, 521])), .inl (some 0, 0), .inl (none, 1)], [((0, 35), (none, 193))], [(1, (0, 200), [], [], [((0, 35), (194, 194))])], [(0, 35, 1)])
set_option maxRecDepth 20000 in
abbrev xx_X11_puts_432 : scX := (Tm, invM, lnX11, [], cc_X11_puts_432)
set_option maxRecDepth 20000 in
theorem hh_X11_puts_432 : scH Tm invM cc_X11_puts_432 := scCheck_ok (X := xx_X11_puts_432) (nodes := []) (fuel := 4000) ⟨lqX11, fa_nil⟩ dtX11_puts (by decide +kernel)
abbrev cc_X11_puts_433 : scC := (qX11_puts, 0, [((-2147483648), 2147483647)], [.inr (.inr (.inl [0])), .inr (.inr (.inl [519, 520, 521])), .inl (some 0, 0), .inl (none, 1)], [((0, 35), (none, 194))], [(1, ((-2147483648), 2147483647), [], [], [((0, 35), (195, 195))])], [(0, 35, 1)])
set_option maxRecDepth 20000 in
abbrev xx_X11_puts_433 : scX := (Tm, invM, lnX11, [], cc_X11_puts_433)
set_option maxRecDepth 20000 in
theorem hh_X11_puts_433 : scH Tm invM cc_X11_puts_433 := scCheck_ok (X := xx_X11_puts_433) (nodes := []) (fuel := 4000) ⟨lqX11, fa_nil⟩ dtX11_puts (by decide +kernel)
abbrev cc_X11_puts_434 : scC := (qX11_puts, 0, [((-2147483648), 2147483647)], [.inr (.inr (.inl [0])), .inr (.inr (.inl [519, 520, 521])), .inl (some 0, 0), .inl (none, 1)], [((0, 35), (none, 195))], [(1, ((-2147483648), 2147483647), [], [], [((0, 35), (196, 196))])], [(0, 35, 1)])
set_option maxRecDepth 20000 in
abbrev xx_X11_puts_434 : scX := (Tm, invM, lnX11, [], cc_X11_puts_434)
set_option maxRecDepth 20000 in
theorem hh_X11_puts_434 : scH Tm invM cc_X11_puts_434 := scCheck_ok (X := xx_X11_puts_434) (nodes := []) (fuel := 4000) ⟨lqX11, fa_nil⟩ dtX11_puts (by decide +kernel)
abbrev cc_X11_puts_435 : scC := (qX11_puts, 0, [((-2147483648), 2147483647)], [.inr (.inr (.inl [0])), .inr (.inr (.inl [519, 520, 521])), .inl (some 0, 0), .inl (none, 1)], [((0, 35), (none, 196))], [(1, ((-2147483648), 2147483647), [], [], [((0, 35), (197, 197))])], [(0, 35, 1)])
set_option maxRecDepth 20000 in
abbrev xx_X11_puts_435 : scX := (Tm, invM, lnX11, [], cc_X11_puts_435)
set_option maxRecDepth 20000 in
theorem hh_X11_puts_435 : scH Tm invM cc_X11_puts_435 := scCheck_ok (X := xx_X11_puts_435) (nodes := []) (fuel := 4000) ⟨lqX11, fa_nil⟩ dtX11_puts (by decide +kernel)
abbrev cc_X11_puts_436 : scC := (qX11_puts, 0, [((-2147483648), 2147483647)], [.inr (.inr (.inl [0])), .inr (.inr (.inl [519, 520, 521])), .inl (some 0, 0), .inl (none, 1)], [((0, 35), (none, 197))], [(1, ((-2147483648), 2147483647), [], [], [((0, 35), (198, 198))])], [(0, 35, 1)])
set_option maxRecDepth 20000 in
abbrev xx_X11_puts_436 : scX := (Tm, invM, lnX11, [], cc_X11_puts_436)
set_option maxRecDepth 20000 in
theorem hh_X11_puts_436 : scH Tm invM cc_X11_puts_436 := scCheck_ok (X := xx_X11_puts_436) (nodes := []) (fuel := 4000) ⟨lqX11, fa_nil⟩ dtX11_puts (by decide +kernel)
abbrev cc_X11_puts_437 : scC := (qX11_puts, 0, [((-1000), 200)], [.inr (.inr (.inl [0])), .inr (.inr (.inl [519, 520, 521])), .inl (some 0, 0), .inl (none, 1)], [((0, 35), (none, 198))], [(1, ((-1000), 200), [], [], [((0, 35), (199, 199))])], [(0, 35, 1)])
set_option maxRecDepth 20000 in
abbrev xx_X11_puts_437 : scX := (Tm, invM, lnX11, [], cc_X11_puts_437)
set_option maxRecDepth 20000 in
theorem hh_X11_puts_437 : scH Tm invM cc_X11_puts_437 := scCheck_ok (X := xx_X11_puts_437) (nodes := []) (fuel := 4000) ⟨lqX11, fa_nil⟩ dtX11_puts (by decide +kernel)
abbrev cc_X11_puts_438 : scC := (qX11_puts, 0, [((-1000), 200)], [.inr (.inr (.inl [0])), .inr (.inr (.inl [519, 520, 521])), .inl (some 0, 0), .inl (none, 1)], [((0, 35), (none, 199))], [(1, ((-1000), 200), [], [], [((0, 35), (200, 200))])], [(0, 35, 1)])
set_option maxRecDepth 20000 in
abbrev xx_X11_puts_438 : scX := (Tm, invM, lnX11, [], cc_X11_puts_438)
set_option maxRecDepth 20000 in
theorem hh_X11_puts_438 : scH Tm invM cc_X11_puts_438 := scCheck_ok (X := xx_X11_puts_438) (nodes := []) (fuel := 4000) ⟨lqX11, fa_nil⟩ dtX11_puts (by decide +kernel)
