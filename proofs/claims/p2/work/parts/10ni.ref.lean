abbrev cc_X11_puts_319 : scC := (qX11_puts, 0, [(0, 12)], [.inr (.inr (.inl [0])), .inr (.inr (.inl [519, 520, 521])), .inl (some 0, 0), .inl (none, 1)], [((0, 35), (none, 80))], [(1, (0, 12), [], [], [((0, 35), (81, 81))])], [(0, 35, 1)])
set_option maxRecDepth 20000 in
abbrev xx_X11_puts_319 : scX := (Tm, invM, lnX11, [], cc_X11_puts_319)
set_option maxRecDepth 20000 in
theorem hh_X11_puts_319 : scH Tm invM cc_X11_puts_319 := scCheck_ok (X := xx_X11_puts_319) (nodes := []) (fuel := 4000) ⟨lqX11, fa_nil⟩ dtX11_puts (by decide +kernel)
abbrev cc_X11_puts_320 : scC := (qX11_puts, 0, [(0, 200)], [.inr (.inr (.inl [0])), .inr (.inr (.inl [519, 520, 521])), .inl (some 0, 0), .inl (none, 1)], [((0, 35), (none, 81))], [(1, (0, 200), [], [], [((0, 35), (82, 82))])], [(0, 35, 1)])
set_option maxRecDepth 20000 in
abbrev xx_X11_puts_320 : scX := (Tm, invM, lnX11, [], cc_X11_puts_320)
set_option maxRecDepth 20000 in
theorem hh_X11_puts_320 : scH Tm invM cc_X11_puts_320 := scCheck_ok (X := xx_X11_puts_320) (nodes := []) (fuel := 4000) ⟨lqX11, fa_nil⟩ dtX11_puts (by decide +kernel)
abbrev cc_X11_puts_321 : scC := (qX11_puts, 0, [((-2147483648), 2147483647)], [.inr (.inr (.inl [0])), .inr (.inr (.inl [519, 520, 521])), .inl (some 0, 0), .inl (none, 1)], [((0, 35), (none, 82))], [(1, ((-2147483648), 2147483647), [], [], [((0, 35), (83, 83))])], [(0, 35, 1)])
set_option maxRecDepth 20000 in
abbrev xx_X11_puts_321 : scX := (Tm, invM, lnX11, [], cc_X11_puts_321)
set_option maxRecDepth 20000 in
theorem hh_X11_puts_321 : scH Tm invM cc_X11_puts_321 := scCheck_ok (X := xx_X11_puts_321) (nodes := []) (fuel := 4000) ⟨lqX11, fa_nil⟩ dtX11_puts (by decide +kernel)
abbrev cc_X11_puts_322 : scC := (qX11_puts, 0, [((-2147483648), 2147483647)], [.inr (.inr (.inl [0])), .inr (.inr (.inl [519, 520, 521])), .inl (some 0, 0), .inl (none, 1)], [((0, 35), (none, 83))], [(1, ((-2147483648), 2147483647), [], [], [((0, 35), (84, 84))])], [(0, 35, 1)])
set_option maxRecDepth 20000 in
abbrev xx_X11_puts_322 : scX := (Tm, invM, lnX11, [], cc_X11_puts_322)
set_option maxRecDepth 20000 in
theorem hh_X11_puts_322 : scH Tm invM cc_X11_puts_322 := scCheck_ok (X := xx_X11_puts_322) (nodes := []) (fuel := 4000) ⟨lqX11, fa_nil⟩ dtX11_puts (by decide +kernel)
abbrev cc_X11_puts_323 : scC := (qX11_puts, 0, [((-2147483648), 2147483647)], [.inr (.inr (.inl [0])), .inr (.inr (.inl [519, 520, 521])), .inl (some 0, 0), .inl (none, 1)], [((0, 35), (none, 84))], [(1, ((-2147483648), 2147483647), [], [], [((0, 35), (85, 85))])], [(0, 35, 1)])
set_option maxRecDepth 20000 in
abbrev xx_X11_puts_323 : scX := (Tm, invM, lnX11, [], cc_X11_puts_323)
set_option maxRecDepth 20000 in
theorem hh_X11_puts_323 : scH Tm invM cc_X11_puts_323 := scCheck_ok (X := xx_X11_puts_323) (nodes := []) (fuel := 4000) ⟨lqX11, fa_nil⟩ dtX11_puts (by decide +kernel)
abbrev cc_X11_puts_324 : scC := (qX11_puts, 0, [((-2147483648), 2147483647)], [.inr (.inr (.inl [0])), .inr (.inr (.inl [519, 520, 521])), .inl (some 0, 0), .inl (none, 1)], [((0, 35), (none, 85))], [(1, ((-2147483648), 2147483647), [], [], [((0, 35), (86, 86))])], [(0, 35, 1)])
set_option maxRecDepth 20000 in
abbrev xx_X11_puts_324 : scX := (Tm, invM, lnX11, [], cc_X11_puts_324)
set_option maxRecDepth 20000 in
theorem hh_X11_puts_324 : scH Tm invM cc_X11_puts_324 := scCheck_ok (X := xx_X11_puts_324) (nodes := []) (fuel := 4000) ⟨lqX11, fa_nil⟩ dtX11_puts (by decide +kernel)
abbrev cc_X11_puts_325 : scC := (qX11_puts, 0, [((-1000), 200)], [.inr (.inr (.inl [0])), .inr (.inr (.inl [519, 520, 521])), .inl (some 0, 0), .inl (none, 1)], [((0, 35), (none, 86))], [(1, ((-1000), 200), [], [], [((0, 35), (87, 87))])], [(0, 35, 1)])
set_option maxRecDepth 20000 in
abbrev xx_X11_puts_325 : scX := (Tm, invM, lnX11, [], cc_X11_puts_325)
set_option maxRecDepth 20000 in
theorem hh_X11_puts_325 : scH Tm invM cc_X11_puts_325 := scCheck_ok (X := xx_X11_puts_325) (nodes := []) (fuel := 4000) ⟨lqX11, fa_nil⟩ dtX11_puts (by decide +kernel)
abbrev cc_X11_puts_326 : scC := (qX11_puts, 0, [((-1000), 200)], [.inr (.inr (.inl [0])), .inr (.inr (.inl [519, 520, 521])), .inl (some 0, 0), .inl (none, 1)], [((0, 35), (none, 87))], [(1, ((-1000), 200), [], [], [((0, 35), (88, 88))])], [(0, 35, 1)])
set_option maxRecDepth 20000 in
abbrev xx_X11_puts_326 : scX := (Tm, invM, lnX11, [], cc_X11_puts_326)
set_option maxRecDepth 20000 in
theorem hh_X11_puts_326 : scH Tm invM cc_X11_puts_326 := scCheck_ok (X := xx_X11_puts_326) (nodes := []) (fuel := 4000) ⟨lqX11, fa_nil⟩ dtX11_puts (by decide +kernel)
abbrev cc_X11_puts_327 : scC := (qX11_puts, 0, [((-1000), 200)], [.inr (.inr (.inl [0])), .inr (.inr (.inl [519, 520, 521])), .inl (some 0, 0), .inl (none, 1)], [((0, 35), (none, 88))], [(1, ((-1000), 200), [], [], [((0, 35), (89, 89))])], [(0, 35, 1)])
set_option maxRecDepth 20000 in
abbrev xx_X11_puts_327 : scX := (Tm, invM, lnX11, [], cc_X11_puts_327)
set_option maxRecDepth 20000 in
theorem hh_X11_puts_327 : scH Tm invM cc_X11_puts_327 := scCheck_ok (X := xx_X11_puts_327) (nodes := []) (fuel := 4000) ⟨lqX11, fa_nil⟩ dtX11_puts (by decide +kernel)
abbrev cc_X11_puts_328 : scC := (qX11_puts, 0, [((-1000), 200)], [.inr (.inr (.inl [0])), .inr (.inr (.inl [519, 520, 521])), .inl (some 0, 0), .inl (none, 1)], [((0, 35), (none, 89))], [(1, ((-1000), 200), [], [], [((0, 35), (90, 90))])], [(0, 35, 1)])
set_option maxRecDepth 20000 in
abbrev xx_X11_puts_328 : scX := (Tm, invM, lnX11, [], cc_X11_puts_328)
set_option maxRecDepth 20000 in
theorem hh_X11_puts_328 : scH Tm invM cc_X11_puts_328 := scCheck_ok (X := xx_X11_puts_328) (nodes := []) (fuel := 4000) ⟨lqX11, fa_nil⟩ dtX11_puts (by decide +kernel)
abbrev cc_X11_puts_329 : scC := (qX11_puts, 0, [((-1000), 200)], [.inr (.inr (.inl [0])), .inr (.inr (.inl [519, 520, 521])), .inl (some 0, 0), .inl (none, 1)], [((0, 35), (none, 90))], [(1, ((-1000), 200), [], [], [((0, 35), (91, 91))])], [(0, 35, 1)])
set_option maxRecDepth 20000 in
abbrev xx_X11_puts_329 : scX := (Tm, invM, lnX11, [], cc_X11_puts_329)
set_option maxRecDepth 20000 in
theorem hh_X11_puts_329 : scH Tm invM cc_X11_puts_329 := scCheck_ok (X := xx_X11_puts_329) (nodes := []) (fuel := 4000) ⟨lqX11, fa_nil⟩ dtX11_puts (by decide +kernel)
abbrev cc_X11_puts_330 : scC := (qX11_puts, 0, [((-1000), 200)], [.inr (.inr (.inl [0])), .inr (.inr (.inl [519, 520, 521])), .inl (some 0, 0), .inl (none, 1)], [((0, 35), (none, 91))], [(1, ((-1000), 200), [], [], [((0, 35), (92, 92))])], [(0, 35, 1)])
set_option maxRecDepth 20000 in
abbrev xx_X11_puts_330 : scX := (Tm, invM, lnX11, [], cc_X11_puts_330)
set_option maxRecDepth 20000 in
theorem hh_X11_puts_330 : scH Tm invM cc_X11_puts_330 := scCheck_ok (X := xx_X11_puts_330) (nodes := []) (fuel := 4000) ⟨lqX11, fa_nil⟩ dtX11_puts (by decide +kernel)
abbrev cc_X11_puts_331 : scC := (qX11_puts, 0, [((-1000), 200)], [.inr (.inr (.inl [0])), .inr (.inr (.inl [519, 520, 521])), .inl (some 0, 0), .inl (none, 1)], [((0, 35), (none, 92))], [(1, ((-1000), 200), [], [], [((0, 35), (93, 93))])], [(0, 35, 1)])
set_option maxRecDepth 20000 in
abbrev xx_X11_puts_331 : scX := (Tm, invM, lnX11, [], cc_X11_puts_331)
set_option maxRecDepth 20000 in
theorem hh_X11_puts_331 : scH Tm invM cc_X11_puts_331 := scCheck_ok (X := xx_X11_puts_331) (nodes := []) (fuel := 4000) ⟨lqX11, fa_nil⟩ dtX11_puts (by decide +kernel)
abbrev cc_X11_puts_332 : scC := (qX11_puts, 0, [((-1000), 200)], [.inr (.inr (.inl [0])), .inr (.inr (.inl [519, 520, 521])), .inl (some 0, 0), .inl (none, 1)], [((0, 35), (none, 93))], [(1, ((-1000), 200), [], [], [((0, 35), (94, 94))])], [(0, 35, 1)])
set_option maxRecDepth 20000 in
abbrev xx_X11_puts_332 : scX := (Tm, invM, lnX11, [], cc_X11_puts_332)
set_option maxRecDepth 20000 in
theorem hh_X11_puts_332 : scH Tm invM cc_X11_puts_332 := scCheck_ok (X := xx_X11_puts_332) (nodes := []) (fuel := 4000) ⟨lqX11, fa_nil⟩ dtX11_puts (by decide +kernel)
abbrev cc_X11_puts_333 : scC := (qX11_puts, 0, [(0, 12)], [.inr (.inr (.inl [0])), .inr (.inr (.inl [519, 520, 521])), .inl (some 0, 0), .inl (none, 1)], [((0, 35), (none, 94))], [(1, (0, 12), [], [], [((0, 35), (95, 95))])], [(0, 35, 1)])
set_option maxRecDepth 20000 in
abbrev xx_X11_puts_333 : scX := (Tm, invM, lnX11, [], cc_X11_puts_333)
set_option maxRecDepth 20000 in
theorem hh_X11_puts_333 : scH Tm invM cc_X11_puts_333 := scCheck_ok (X := xx_X11_puts_333) (nodes := []) (fuel := 4000) ⟨lqX11, fa_nil⟩ dtX11_puts (by decide +kernel)
abbrev cc_X11_puts_334 : scC := (qX11_puts, 0, [(0, 200)], [.inr (.inr (.inl [0])), .inr (.inr (.inl [519, 520, 521])), .inl (some 0, 0), .inl (none, 1)], [((0, 35), (none, 95))], [(1, (0, 200), [], [], [((0, 35), (96, 96))])], [(0, 35, 1)])
set_option maxRecDepth 20000 in
abbrev xx_X11_puts_334 : scX := (Tm, invM, lnX11, [], cc_X11_puts_334)
set_option maxRecDepth 20000 in
theorem hh_X11_puts_334 : scH Tm invM cc_X11_puts_334 := scCheck_ok (X := xx_X11_puts_334) (nodes := []) (fuel := 4000) ⟨lqX11, fa_nil⟩ dtX11_puts (by decide +kernel)
abbrev cc_X11_puts_335 : scC := (qX11_puts, 0, [((-2147483648), 2147483647)], [.inr (.inr (.inl [0])), .inr (.inr (.inl [519, 520, 521])), .inl (some 0, 0), .inl (none, 1)], [((0, 35), (none, 96))], [(1, ((-2147483648), 2147483647), [], [], [((0, 35), (97, 97))])], [(0, 35, 1)])
set_option maxRecDepth 20000 in
abbrev xx_X11_puts_335 : scX := (Tm, invM, lnX11, [], cc_X11_puts_335)
set_option maxRecDepth 20000 in
theorem hh_X11_puts_335 : scH Tm invM cc_X11_puts_335 := scCheck_ok (X := xx_X11_puts_335) (nodes := []) (fuel := 4000) ⟨lqX11, fa_nil⟩ dtX11_puts (by decide +kernel)
abbrev cc_X11_puts_336 : scC := (qX11_puts, 0, [((-2147483648), 2147483647)], [.inr (.inr (.inl [0])), .inr (.inr (.inl [519, 520, 521])), .inl (some 0, 0), .inl (none, 1)], [((0, 35), (none, 97))], [(1, ((-2147483648), 2147483647), [], [], [((0, 35), (98, 98))])], [(0, 35, 1)])
set_option maxRecDepth 20000 in
abbrev xx_X11_puts_336 : scX := (Tm, invM, lnX11, [], cc_X11_puts_336)
set_option maxRecDepth 20000 in
theorem hh_X11_puts_336 : scH Tm invM cc_X11_puts_336 := scCheck_ok (X := xx_X11_puts_336) (nodes := []) (fuel := 4000) ⟨lqX11, fa_nil⟩ dtX11_puts (by decide +kernel)
abbrev cc_X11_puts_337 : scC := (qX11_puts, 0, [((-2147483648), 2147483647)], [.inr (.inr (.inl [0])), .inr (.inr (.inl [519, 520, 521])), .inl (some 0, 0), .inl (none, 1)], [((0, 35), (none, 98))], [(1, ((-2147483648), 2147483647), [], [], [((0, 35), (99, 99))])], [(0, 35, 1)])
set_option maxRecDepth 20000 in
abbrev xx_X11_puts_337 : scX := (Tm, invM, lnX11, [], cc_X11_puts_337)
set_option maxRecDepth 20000 in
theorem hh_X11_puts_337 : scH Tm invM cc_X11_puts_337 := scCheck_ok (X := xx_X11_puts_337) (nodes := []) (fuel := 4000) ⟨lqX11, fa_nil⟩ dtX11_puts (by decide +kernel)
abbrev cc_X11_puts_338 : scC := (qX11_puts, 0, [((-2147483648), 2147483647)], [.inr (.inr (.inl [0])), .inr (.inr (.inl [519, 520, 521])), .inl (some 0, 0), .inl (none, 1)], [((0, 35), (none, 99))], [(1, ((-2147483648), 2147483647), [], [], [((0, 35), (100, 100))])], [(0, 35, 1)])
set_option maxRecDepth 20000 in
abbrev xx_X11_puts_338 : scX := (Tm, invM, lnX11, [], cc_X11_puts_338)
set_option maxRecDepth 20000 in
theorem hh_X11_puts_338 : scH Tm invM cc_X11_puts_338 := scCheck_ok (X := xx_X11_puts_338) (nodes := []) (fuel := 4000) ⟨lqX11, fa_nil⟩ dtX11_puts (by decide +kernel)
abbrev cc_X11_puts_339 : scC := (qX11_puts, 0, [((-1000), 200)], [.inr (.inr (.inl [0])), .inr (.inr (.inl [519, 520, 521])), .inl (some 0, 0), .inl (none, 1)], [((0, 35), (none, 100))], [(1, ((-1000), 200), [], [], [((0, 35), (101, 101))])], [(0, 35, 1)])
set_option maxRecDepth 20000 in
abbrev xx_X11_puts_339 : scX := (Tm, invM, lnX11, [], cc_X11_puts_339)
set_option maxRecDepth 20000 in
theorem hh_X11_puts_339 : scH Tm invM cc_X11_puts_339 := scCheck_ok (X := xx_X11_puts_339) (nodes := []) (fuel := 4000) ⟨lqX11, fa_nil⟩ dtX11_puts (by decide +kernel)
abbrev cc_X11_puts_340 : scC := (qX11_puts, 0, [((-1000), 200)], [.inr (.inr (.inl [0])), .inr (.inr (.inl [519, 520, 521])), .inl (some 0, 0), .inl (none, 1)], [((0, 35), (none, 101))], [(1, ((-1000), 200), [], [], [((0, 35), (102, 102))])], [(0, 35, 1)])
set_option maxRecDepth 20000 in
abbrev xx_X11_puts_340 : scX := (Tm, invM, lnX11, [], cc_X11_puts_340)
set_option maxRecDepth 20000 in
theorem hh_X11_puts_340 : scH Tm invM cc_X11_puts_340 := scCheck_ok (X := xx_X11_puts_340) (nodes := []) (fuel := 4000) ⟨lqX11, fa_nil⟩ dtX11_puts (by decide +kernel)
abbrev cc_X11_puts_341 : scC := (qX11_puts, 0, [((-1000), 200)], [.inr (.inr (.inl [0])), .inr (.inr (.inl [519, 520, 521])), .inl (some 0, 0), .inl (none, 1)], [((0, 35), (none, 102))], [(1, ((-1000), 200), [], [], [((0, 35), (103, 103))])], [(0, 35, 1)])
set_option maxRecDepth 20000 in
abbrev xx_X11_puts_341 : scX := (Tm, invM, lnX11, [], cc_X11_puts_341)
set_option maxRecDepth 20000 in
theorem hh_X11_puts_341 : scH Tm invM cc_X11_puts_341 := scCheck_ok (X := xx_X11_puts_341) (nodes := []) (fuel := 4000) ⟨lqX11, fa_nil⟩ dtX11_puts (by decide +kernel)
abbrev cc_X11_puts_342 : scC := (qX11_puts, 0, [((-1000), 200)], [.inr (.inr (.inl [0])), .inr (.inr (.inl [519, 520, 521])), .inl (some 0, 0), .inl (none, 1)], [((0, 35), (none, 103))], [(1, ((-1000), 200), [], [], [((0, 35), (104, 104))])], [(0, 35, 1)])
set_option maxRecDepth 20000 in
abbrev xx_X11_puts_342 : scX := (Tm, invM, lnX11, [], cc_X11_puts_342)
set_option maxRecDepth 20000 in
theorem hh_X11_puts_342 : scH Tm invM cc_X11_puts_342 := scCheck_ok (X := xx_X11_puts_342) (nodes := []) (fuel := 4000) ⟨lqX11, fa_nil⟩ dtX11_puts (by decide +kernel)
abbrev cc_X11_puts_343 : scC := (qX11_puts, 0, [((-1000), 200)], [.inr (.inr (.inl [0])), .inr (.inr (.inl [519, 520, 521])), .inl (some 0, 0), .inl (none, 1)], [((0, 35), (none, 104))], [(1, ((-1000), 200), [], [], [((0, 35), (105, 105))])], [(0, 35, 1)])
set_option maxRecDepth 20000 in
abbrev xx_X11_puts_343 : scX := (Tm, invM, lnX11, [], cc_X11_puts_343)
set_option maxRecDepth 20000 in
theorem hh_X11_puts_343 : scH Tm invM cc_X11_puts_343 := scCheck_ok (X := xx_X11_puts_343) (nodes := []) (fuel := 4000) ⟨lqX11, fa_nil⟩ dtX11_puts (by decide +kernel)
abbrev cc_X11_puts_344 : scC := (qX11_puts, 0, [((-1000), 200)], [.inr (.inr (.inl [0])), .inr (.inr (.inl [519, 520, 521])), .inl (some 0, 0), .inl (none, 1)], [((0, 35), (none, 105))], [(1, ((-1000), 200), [], [], [((0, 35), (106, 106))])], [(0, 35, 1)])
set_option maxRecDepth 20000 in
abbrev xx_X11_puts_344 : scX := (Tm, invM, lnX11, [], cc_X11_puts_344)
set_option maxRecDepth 20000 in
theorem hh_X11_puts_344 : scH Tm invM cc_X11_puts_344 := scCheck_ok (X := xx_X11_puts_344) (nodes := []) (fuel := 4000) ⟨lqX11, fa_nil⟩ dtX11_puts (by decide +kernel)
abbrev cc_X11_puts_345 : scC := (qX11_puts, 0, [((-1000), 200)], [.inr (.inr (.inl [0])), .inr (.inr (.inl [519, 520, 521])), .inl (some 0, 0), .inl (none, 1)], [((0, 35), (none, 106))], [(1, ((-1000), 200), [], [], [((0, 35), (107, 107))])], [(0, 35, 1)])
set_option maxRecDepth 20000 in
abbrev xx_X11_puts_345 : scX := (Tm, invM, lnX11, [], cc_X11_puts_345)
set_option maxRecDepth 20000 in
theorem hh_X11_puts_345 : scH Tm invM cc_X11_puts_345 := scCheck_ok (X := xx_X11_puts_345) (nodes := []) (fuel := 4000) ⟨lqX11, fa_nil⟩ dtX11_puts (by decide +kernel)
abbrev cc_X11_puts_346 : scC := (qX11_puts, 0, [((-1000), 200)], [.inr (.inr (.inl [0])), .inr (.inr (.inl [519, 520, 521])), .inl (some 0, 0), .inl (none, 1)], [((0, 35), (none, 107))], [(1, ((-1000), 200), [], [], [((0, 35), (108, 108))])], [(0, 35, 1)])
set_option maxRecDepth 20000 in
abbrev xx_X11_puts_346 : scX := (Tm, invM, lnX11, [], cc_X11_puts_346)
set_option maxRecDepth 20000 in
theorem hh_X11_puts_346 : scH Tm invM cc_X11_puts_346 := scCheck_ok (X := xx_X11_puts_346) (nodes := []) (fuel := 4000) ⟨lqX11, fa_nil⟩ dtX11_puts (by decide +kernel)
abbrev cc_X11_puts_347 : scC := (qX11_puts, 0, [(0, 12)], [.inr (.inr (.inl [0])), .inr (.inr (.inl [519, 520, 521])), .inl (some 0, 0), .inl (none, 1)], [((0, 35), (none, 108))], [(1, (0, 12), [], [], [((0, 35), (109, 109))])], [(0, 35, 1)])
set_option maxRecDepth 20000 in
abbrev xx_X11_puts_347 : scX := (Tm, invM, lnX11, [], cc_X11_puts_347)
set_option maxRecDepth 20000 in
theorem hh_X11_puts_347 : scH Tm invM cc_X11_puts_347 := scCheck_ok (X := xx_X11_puts_347) (nodes := []) (fuel := 4000) ⟨lqX11, fa_nil⟩ dtX11_puts (by decide +kernel)
abbrev cc_X11_puts_348 : scC := (qX11_puts, 0, [(0, 200)], [.inr (.inr (.inl [0])), .inr (.inr (.inl [519, 520, 521])), .inl (some 0, 0), .inl (none, 1)], [((0, 35), (none, 109))], [(1, (0, 200), [], [], [((0, 35), (110, 110))])], [(0, 35, 1)])
set_option maxRecDepth 20000 in
abbrev xx_X11_puts_348 : scX := (Tm, invM, lnX11, [], cc_X11_puts_348)
set_option maxRecDepth 20000 in
theorem hh_X11_puts_348 : scH Tm invM cc_X11_puts_348 := scCheck_ok (X := xx_X11_puts_348) (nodes := []) (fuel := 4000) ⟨lqX11, fa_nil⟩ dtX11_puts (by decide +kernel)
abbrev cc_X11_puts_349 : scC := (qX11_puts, 0, [((-2147483648), 2147483647)], [.inr (.inr (.inl [0])), .inr (.inr (.inl [519, 520, 521])), .inl (some 0, 0), .inl (none, 1)], [((0, 35), (none, 110))], [(1, ((-2147483648), 2147483647), [], [], [((0, 35), (111, 111))])], [(0, 35, 1)])
set_option maxRecDepth 20000 in
abbrev xx_X11_puts_349 : scX := (Tm, invM, lnX11, [], cc_X11_puts_349)
set_option maxRecDepth 20000 in
theorem hh_X11_puts_349 : scH Tm invM cc_X11_puts_349 := scCheck_ok (X := xx_X11_puts_349) (nodes := []) (fuel := 4000) ⟨lqX11, fa_nil⟩ dtX11_puts (by decide +kernel)
abbrev cc_X11_puts_350 : scC := (qX11_puts, 0, [((-2147483648), 2147483647)], [.inr (.inr (.inl [0])), .inr (.inr (.inl [519, 520, 521])), .inl (some 0, 0), .inl (none, 1)], [((0, 35), (none, 111))], [(1, ((-2147483648), 2147483647), [], [], [((0, 35), (112, 112))])], [(0, 35, 1)])
set_option maxRecDepth 20000 in
abbrev xx_X11_puts_350 : scX := (Tm, invM, lnX11, [], cc_X11_puts_350)
set_option maxRecDepth 20000 in
theorem hh_X11_puts_350 : scH Tm invM cc_X11_puts_350 := scCheck_ok (X := xx_X11_puts_350) (nodes := []) (fuel := 4000) ⟨lqX11, fa_nil⟩ dtX11_puts (by decide +kernel)
abbrev cc_X11_puts_351 : scC := (qX11_puts, 0, [((-2147483648), 2147483647)], [.inr (.inr (.inl [0])), .inr (.inr (.inl [519, 520, 521])), .inl (some 0, 0), .inl (none, 1)], [((0, 35), (none, 112))], [(1, ((-2147483648), 2147483647), [], [], [((0, 35), (113, 113))])], [(0, 35, 1)])
set_option maxRecDepth 20000 in
abbrev xx_X11_puts_351 : scX := (Tm, invM, lnX11, [], cc_X11_puts_351)
set_option maxRecDepth 20000 in
theorem hh_X11_puts_351 : scH Tm invM cc_X11_puts_351 := scCheck_ok (X := xx_X11_puts_351) (nodes := []) (fuel := 4000) ⟨lqX11, fa_nil⟩ dtX11_puts (by decide +kernel)
abbrev cc_X11_puts_352 : scC := (qX11_puts, 0, [((-2147483648), 2147483647)], [.inr (.inr (.inl [0])), .inr (.inr (.inl [519, 520, 521])), .inl (some 0, 0), .inl (none, 1)], [((0, 35), (none, 113))], [(1, ((-2147483648), 2147483647), [], [], [((0, 35), (114, 114))])], [(0, 35, 1)])
set_option maxRecDepth 20000 in
abbrev xx_X11_puts_352 : scX := (Tm, invM, lnX11, [], cc_X11_puts_352)
set_option maxRecDepth 20000 in
theorem hh_X11_puts_352 : scH Tm invM cc_X11_puts_352 := scCheck_ok (X := xx_X11_puts_352) (nodes := []) (fuel := 4000) ⟨lqX11, fa_nil⟩ dtX11_puts (by decide +kernel)
abbrev cc_X11_puts_353 : scC := (qX11_puts, 0, [((-1000), 200)], [.inr (.inr (.inl [0])), .inr (.inr (.inl [519, 520, 521])), .inl (some 0, 0), .inl (none, 1)], [((0, 35), (none, 114))], [(1, ((-1000), 200), [], [], [((0, 35), (115, 115))])], [(0, 35, 1)])
set_option maxRecDepth 20000 in
abbrev xx_X11_puts_353 : scX := (Tm, invM, lnX11, [], cc_X11_puts_353)
set_option maxRecDepth 20000 in
theorem hh_X11_puts_353 : scH Tm invM cc_X11_puts_353 := scCheck_ok (X := xx_X11_puts_353) (nodes := []) (fuel := 4000) ⟨lqX11, fa_nil⟩ dtX11_puts (by decide +kernel)
abbrev cc_X11_puts_354 : scC := (qX11_puts, 0, [((-1000), 200)], [.inr (.inr (.inl [0])), .inr (.inr (.inl [519, 520, 521])), .inl (some 0, 0), .inl (none, 1)], [((0, 35), (none, 115))], [(1, ((-1000), 200), [], [], [((0, 35), (116, 116))])], [(0, 35, 1)])
set_option maxRecDepth 20000 in
abbrev xx_X11_puts_354 : scX := (Tm, invM, lnX11, [], cc_X11_puts_354)
set_option maxRecDepth 20000 in
theorem hh_X11_puts_354 : scH Tm invM cc_X11_puts_354 := scCheck_ok (X := xx_X11_puts_354) (nodes := []) (fuel := 4000) ⟨lqX11, fa_nil⟩ dtX11_puts (by decide +kernel)
abbrev cc_X11_puts_355 : scC := (qX11_puts, 0, [((-1000), 200)], [.inr (.inr (.inl [0])), .inr (.inr (.inl [519, 520, 521])), .inl (some 0, 0), .inl (none, 1)], [((0, 35), (none, 116))], [(1, ((-1000), 200), [], [], [((0, 35), (117, 117))])], [(0, 35, 1)])
set_option maxRecDepth 20000 in
abbrev xx_X11_puts_355 : scX := (Tm, invM, lnX11, [], cc_X11_puts_355)
set_option maxRecDepth 20000 in
theorem hh_X11_puts_355 : scH Tm invM cc_X11_puts_355 := scCheck_ok (X := xx_X11_puts_355) (nodes := []) (fuel := 4000) ⟨lqX11, fa_nil⟩ dtX11_puts (by decide +kernel)
abbrev cc_X11_puts_356 : scC := (qX11_puts, 0, [((-1000), 200)], [.inr (.inr (.inl [0])), .inr (.inr (.inl [519, 520, 521])), .inl (some 0, 0), .inl (none, 1)], [((0, 35), (none, 117))], [(1, ((-1000), 200), [], [], [((0, 35), (118, 118))])], [(0, 35, 1)])
set_option maxRecDepth 20000 in
abbrev xx_X11_puts_356 : scX := (Tm, invM, lnX11, [], cc_X11_puts_356)
set_option maxRecDepth 20000 in
theorem hh_X11_puts_356 : scH Tm invM cc_X11_puts_356 := scCheck_ok (X := xx_X11_puts_356) (nodes := []) (fuel := 4000) ⟨lqX11, fa_nil⟩ dtX11_puts (by decide +kernel)
abbrev cc_X11_puts_357 : scC := (qX11_puts, 0, [((-1000), 200)], [.inr (.inr (.inl [0])), .inr (.inr (.inl [519, 520, 521])), .inl (some 0, 0), .inl (none, 1)], [((0, 35), (none, 118))], [(1, ((-1000), 200), [], [], [((0, 35), (119, 119))])], [(0, 35, 1)])
set_option maxRecDepth 20000 in
abbrev xx_X11_puts_357 : scX := (Tm, invM, lnX11, [], cc_X11_puts_357)
set_option maxRecDepth 20000 in
theorem hh_X11_puts_357 : scH Tm invM cc_X11_puts_357 := scCheck_ok (X := xx_X11_puts_357) (nodes := []) (fuel := 4000) ⟨lqX11, fa_nil⟩ dtX11_puts (by decide +kernel)
abbrev cc_X11_puts_358 : scC := (qX11_puts, 0, [((-1000), 200)], [.inr (.inr (.inl [0])), .inr (.inr (.inl [519, 520, 521])), .inl (some 0, 0), .inl (none, 1)], [((0, 35), (none, 119))], [(1, ((-1000), 200), [], [], [((0, 35), (120, 120))])], [(0, 35, 1)])
set_option maxRecDepth 20000 in
abbrev xx_X11_puts_358 : scX := (Tm, invM, lnX11, [], cc_X11_puts_358)
set_option maxRecDepth 20000 in
theorem hh_X11_puts_358 : scH Tm invM cc_X11_puts_358 := scCheck_ok (X := xx_X11_puts_358) (nodes := []) (fuel := 4000) ⟨lqX11, fa_nil⟩ dtX11_puts (by decide +kernel)
abbrev cc_X11_puts_359 : scC := (qX11_puts, 0, [((-1000), 200)], [.inr (.inr (.inl [0])), .inr (.inr (.inl [519, 520, 521])), .inl (some 0, 0), .inl (none, 1)], [((0, 35), (none, 120))], [(1, ((-1000), 200), [], [], [((0, 35), (121, 121))])], [(0, 35, 1)])
set_option maxRecDepth 20000 in
abbrev xx_X11_puts_359 : scX := (Tm, invM, lnX11, [], cc_X11_puts_359)
set_option maxRecDepth 20000 in
theorem hh_X11_puts_359 : scH Tm invM cc_X11_puts_359 := scCheck_ok (X := xx_X11_puts_359) (nodes := []) (fuel := 4000) ⟨lqX11, fa_nil⟩ dtX11_puts (by decide +kernel)
abbrev cc_X11_puts_360 : scC := (qX11_puts, 0, [((-1000), 200)], [.inr (.inr (.inl [0])), .inr (.inr (.inl [519, 520, 521])), .inl (some 0, 0), .inl (none, 1)], [((0, 35), (none, 121))], [(1, ((-1000), 200), [], [], [((0, 35), (122, 122))])], [(0, 35, 1)])
set_option maxRecDepth 20000 in
abbrev xx_X11_puts_360 : scX := (Tm, invM, lnX11, [], cc_X11_puts_360)
set_option maxRecDepth 20000 in
theorem hh_X11_puts_360 : scH Tm invM cc_X11_puts_360 := scCheck_ok (X := xx_X11_puts_360) (nodes := []) (fuel := 4000) ⟨lqX11, fa_nil⟩ dtX11_puts (by decide +kernel)
abbrev cc_X11_puts_361 : scC := (qX11_puts, 0, [(0, 12)], [.inr (.inr (.inl [0])), .inr (.inr (.inl [519, 520, 521])), .inl (some 0, 0), .inl (none, 1)], [((0, 35), (none, 122))], [(1, (0, 12), [], [], [((0, 35), (123, 123))])], [(0, 35, 1)])
set_option maxRecDepth 20000 in
abbrev xx_X11_puts_361 : scX := (Tm, invM, lnX11, [], cc_X11_puts_361)
set_option maxRecDepth 20000 in
theorem hh_X11_puts_361 : scH Tm invM cc_X11_puts_361 := scCheck_ok (X := xx_X11_puts_361) (nodes := []) (fuel := 4000) ⟨lqX11, fa_nil⟩ dtX11_puts (by decide +kernel)
abbrev cc_X11_puts_362 : scC := (qX11_puts, 0, [(0, 200)], [.inr (.inr (.inl [0])), .inr (.inr (.inl [519, 520, 521])), .inl (some 0, 0), .inl (none, 1)], [((0, 35), (none, 123))], [(1, (0, 200), [], [], [((0, 35), (124, 124))])], [(0, 35, 1)])
set_option maxRecDepth 20000 in
abbrev xx_X11_puts_362 : scX := (Tm, invM, lnX11, [], cc_X11_puts_362)
set_option maxRecDepth 20000 in
theorem hh_X11_puts_362 : scH Tm invM cc_X11_puts_362 := scCheck_ok (X := xx_X11_puts_362) (nodes := []) (fuel := 4000) ⟨lqX11, fa_nil⟩ dtX11_puts (by decide +kernel)
abbrev cc_X11_puts_363 : scC := (qX11_puts, 0, [((-2147483648), 2147483647)], [.inr (.inr (.inl [0])), .inr (.inr (.inl [519, 520, 521])), .inl (some 0, 0), .inl (none, 1)], [((0, 35), (none, 124))], [(1, ((-2147483648), 2147483647), [], [], [((0, 35), (125, 125))])], [(0, 35, 1)])
set_option maxRecDepth 20000 in
abbrev xx_X11_puts_363 : scX := (Tm, invM, lnX11, [], cc_X11_puts_363)
set_option maxRecDepth 20000 in
theorem hh_X11_puts_363 : scH Tm invM cc_X11_puts_363 := scCheck_ok (X := xx_X11_puts_363) (nodes := []) (fuel := 4000) ⟨lqX11, fa_nil⟩ dtX11_puts (by decide +kernel)
abbrev cc_X11_puts_364 : scC := (qX11_puts, 0, [((-2147483648), 2147483647)], [.inr (.inr (.inl [0])), .inr (.inr (.inl [519, 520, 521])), .inl (some 0, 0), .inl (none, 1)], [((0, 35), (none, 125))], [(1, ((-2147483648), 2147483647), [], [], [((0, 35), (126, 126))])], [(0, 35, 1)])
set_option maxRecDepth 20000 in
abbrev xx_X11_puts_364 : scX := (Tm, invM, lnX11, [], cc_X11_puts_364)
set_option maxRecDepth 20000 in
theorem hh_X11_puts_364 : scH Tm invM cc_X11_puts_364 := scCheck_ok (X := xx_X11_puts_364) (nodes := []) (fuel := 4000) ⟨lqX11, fa_nil⟩ dtX11_puts (by decide +kernel)
abbrev cc_X11_puts_365 : scC := (qX11_puts, 0, [((-2147483648), 2147483647)], [.inr (.inr (.inl [0])), .inr (.inr (.inl [519, 520, 521])), .inl (some 0, 0), .inl (none, 1)], [((0, 35), (none, 126))], [(1, ((-2147483648), 2147483647), [], [], [((0, 35), (127, 127))])], [(0, 35, 1)])
set_option maxRecDepth 20000 in
abbrev xx_X11_puts_365 : scX := (Tm, invM, lnX11, [], cc_X11_puts_365)
set_option maxRecDepth 20000 in
theorem hh_X11_puts_365 : scH Tm invM cc_X11_puts_365 := scCheck_ok (X := xx_X11_puts_365) (nodes := []) (fuel := 4000) ⟨lqX11, fa_nil⟩ dtX11_puts (by decide +kernel)
abbrev cc_X11_puts_366 : scC := (qX11_puts, 0, [((-2147483648), 2147483647)], [.inr (.inr (.inl [0])), .inr (.inr (.inl [519, 520, 521])), .inl (some 0, 0), .inl (none, 1)], [((0, 35), (none, 127))], [(1, ((-2147483648), 2147483647), [], [], [((0, 35), (128, 128))])], [(0, 35, 1)])
set_option maxRecDepth 20000 in
abbrev xx_X11_puts_366 : scX := (Tm, invM, lnX11, [], cc_X11_puts_366)
set_option maxRecDepth 20000 in
theorem hh_X11_puts_366 : scH Tm invM cc_X11_puts_366 := scCheck_ok (X := xx_X11_puts_366) (nodes := []) (fuel := 4000) ⟨lqX11, fa_nil⟩ dtX11_puts (by decide +kernel)
abbrev cc_X11_puts_367 : scC := (qX11_puts, 0, [((-1000), 200)], [.inr (.inr (.inl [0])), .inr (.inr (.inl [519, 520, 521])), .inl (some 0, 0), .inl (none, 1)], [((0, 35), (none, 128))], [(1, ((-1000), 200), [], [], [((0, 35), (129, 129))])], [(0, 35, 1)])
set_option maxRecDepth 20000 in
abbrev xx_X11_puts_367 : scX := (Tm, invM, lnX11, [], cc_X11_puts_367)
set_option maxRecDepth 20000 in
theorem hh_X11_puts_367 : scH Tm invM cc_X11_puts_367 := scCheck_ok (X := xx_X11_puts_367) (nodes := []) (fuel := 4000) ⟨lqX11, fa_nil⟩ dtX11_puts (by decide +kernel)
abbrev cc_X11_puts_368 : scC := (qX11_puts, 0, [((-1000), 200)], [.inr (.inr (.inl [0])), .inr (.inr (.inl [519, 520, 521])), .inl (some 0, 0), .inl (none, 1)], [((0, 35), (none, 129))], [(1, ((-1000), 200), [], [], [((0, 35), (130, 130))])], [(0, 35, 1)])
set_option maxRecDepth 20000 in
abbrev xx_X11_puts_368 : scX := (Tm, invM, lnX11, [], cc_X11_puts_368)
set_option maxRecDepth 20000 in
theorem hh_X11_puts_368 : scH Tm invM cc_X11_puts_368 := scCheck_ok (X := xx_X11_puts_368) (nodes := []) (fuel := 4000) ⟨lqX11, fa_nil⟩ dtX11_puts (by decide +kernel)
abbrev cc_X11_puts_369 : scC := (qX11_puts, 0, [((-1000), 200)], [.inr (.inr (.inl [0])), .inr (.inr (.inl [519, 520, 521])), .inl (some 0, 0), .inl (none, 1)], [((0, 35), (none, 130))], [(1, ((-1000), 200), [], [], [((0, 35), (131, 131))])], [(0, 35, 1)])
set_option maxRecDepth 20000 in
abbrev xx_X11_puts_369 : scX := (Tm, invM, lnX11, [], cc_X11_puts_369)
set_option maxRecDepth 20000 in
theorem hh_X11_puts_369 : scH Tm invM cc_X11_puts_369 := scCheck_ok (X := xx_X11_puts_369) (nodes := []) (fuel := 4000) ⟨lqX11, fa_nil⟩ dtX11_puts (by decide +kernel)
abbrev cc_X11_puts_370 : scC := (qX11_puts, 0, [((-1000), 200)], [.inr (.inr (.inl [0])), .inr (.inr (.inl [519, 520, 521])), .inl (some 0, 0), .inl (none, 1)], [((0, 35), (none, 131))], [(1, ((-1000), 200), [], [], [((0, 35), (132, 132))])], [(0, 35, 1)])
set_option maxRecDepth 20000 in
abbrev xx_X11_puts_370 : scX := (Tm, invM, lnX11, [], cc_X11_puts_370)
set_option maxRecDepth 20000 in
theorem hh_X11_puts_370 : scH Tm invM cc_X11_puts_370 := scCheck_ok (X := xx_X11_puts_370) (nodes := []) (fuel := 4000) ⟨lqX11, fa_nil⟩ dtX11_puts (by decide +kernel)
abbrev cc_X11_puts_371 : scC := (qX11_puts, 0, [((-1000), 200)], [.inr (.inr (.inl [0])), .inr (.inr (.inl [519, 520, 521])), .inl (some 0, 0), .inl (none, 1)], [((0, 35), (none, 132))], [(1, ((-1000), 200), [], [], [((0, 35), (133, 133))])], [(0, 35, 1)])
set_option maxRecDepth 20000 in
abbrev xx_X11_puts_371 : scX := (Tm, invM, lnX11, [], cc_X11_puts_371)
set_option maxRecDepth 20000 in
theorem hh_X11_puts_371 : scH Tm invM cc_X11_puts_371 := scCheck_ok (X := xx_X11_puts_371) (nodes := []) (fuel := 4000) ⟨lqX11, fa_nil⟩ dtX11_puts (by decide +kernel)
abbrev cc_X11_puts_372 : scC := (qX11_puts, 0, [((-1000), 200)], [.inr (.inr (.inl [0])), .inr (.inr (.inl [519, 520, 521])), .inl (some 0, 0), .inl (none, 1)], [((0, 35), (none, 133))], [(1, ((-1000), 200), [], [], [((0, 35), (134, 134))])], [(0, 35, 1)])
set_option maxRecDepth 20000 in
abbrev xx_X11_puts_372 : scX := (Tm, invM, lnX11, [], cc_X11_puts_372)
set_option maxRecDepth 20000 in
theorem hh_X11_puts_372 : scH Tm invM cc_X11_puts_372 := scCheck_ok (X := xx_X11_puts_372) (nodes := []) (fuel := 4000) ⟨lqX11, fa_nil⟩ dtX11_puts (by decide +kernel)
abbrev cc_X11_puts_373 : scC := (qX11_puts, 0, [((-1000), 200)], [.inr (.inr (.inl [0])), .inr (.inr (.inl [519, 520, 521])), .inl (some 0, 0), .inl (none, 1)], [((0, 35), (none, 134))], [(1, ((-1000), 200), [], [], [((0, 35), (135, 135))])], [(0, 35, 1)])
set_option maxRecDepth 20000 in
abbrev xx_X11_puts_373 : scX := (Tm, invM, lnX11, [], cc_X11_puts_373)
set_option maxRecDepth 20000 in
theorem hh_X11_puts_373 : scH Tm invM cc_X11_puts_373 := scCheck_ok (X := xx_X11_puts_373) (nodes := []) (fuel := 4000) ⟨lqX11, fa_nil⟩ dtX11_puts (by decide +kernel)
abbrev cc_X11_puts_374 : scC := (qX11_puts, 0, [((-1000), 200)], [.inr (.inr (.inl [0])), .inr (.inr (.inl [519, 520, 521])), .inl (some 0, 0), .inl (none, 1)], [((0, 35), (none, 135))], [(1, ((-1000), 200), [], [], [((0, 35), (136, 136))])], [(0, 35, 1)])
set_option maxRecDepth 20000 in
abbrev xx_X11_puts_374 : scX := (Tm, invM, lnX11, [], cc_X11_puts_374)
set_option maxRecDepth 20000 in
theorem hh_X11_puts_374 : scH Tm invM cc_X11_puts_374 := scCheck_ok (X := xx_X11_puts_374) (nodes := []) (fuel := 4000) ⟨lqX11, fa_nil⟩ dtX11_puts (by decide +kernel)
abbrev cc_X11_puts_375 : scC := (qX11_puts, 0, [(0, 12)], [.inr (.inr (.inl [0])), .inr (.inr (.inl [519, 520, 521])), .inl (some 0, 0), .inl (none, 1)], [((0, 35), (none, 136))], [(1, (0, 12), [], [], [((0, 35), (137, 137))])], [(0, 35, 1)])
set_option maxRecDepth 20000 in
abbrev xx_X11_puts_375 : scX := (Tm, invM, lnX11, [], cc_X11_puts_375)
set_option maxRecDepth 20000 in
theorem hh_X11_puts_375 : scH Tm invM cc_X11_puts_375 := scCheck_ok (X := xx_X11_puts_375) (nodes := []) (fuel := 4000) ⟨lqX11, fa_nil⟩ dtX11_puts (by decide +kernel)
abbrev cc_X11_puts_376 : scC := (qX11_puts, 0, [(0, 200)], [.inr (.inr (.inl [0])), .inr (.inr (.inl [519, 520, 521])), .inl (some 0, 0), .inl (none, 1)], [((0, 35), (none, 137))], [(1, (0, 200), [], [], [((0, 35), (138, 138))])], [(0, 35, 1)])
set_option maxRecDepth 20000 in
abbrev xx_X11_puts_376 : scX := (Tm, invM, lnX11, [], cc_X11_puts_376)
set_option maxRecDepth 20000 in
theorem hh_X11_puts_376 : scH Tm invM cc_X11_puts_376 := scCheck_ok (X := xx_X11_puts_376) (nodes := []) (fuel := 4000) ⟨lqX11, fa_nil⟩ dtX11_puts (by decide +kernel)
abbrev cc_X11_puts_377 : scC := (qX11_puts, 0, [((-2147483648), 2147483647)], [.inr (.inr (.inl [0])), .inr (.inr (.inl [519, 520, 521])), .inl (some 0, 0), .inl (none, 1)], [((0, 35), (none, 138))], [(1, ((-2147483648), 2147483647), [], [], [((0, 35), (139, 139))])], [(0, 35, 1)])
set_option maxRecDepth 20000 in
abbrev xx_X11_puts_377 : scX := (Tm, invM, lnX11, [], cc_X11_puts_377)
set_option maxRecDepth 20000 in
theorem hh_X11_puts_377 : scH Tm invM cc_X11_puts_377 := scCheck_ok (X := xx_X11_puts_377) (nodes := []) (fuel := 4000) ⟨lqX11, fa_nil⟩ dtX11_puts (by decide +kernel)
abbrev cc_X11_puts_378 : scC := (qX11_puts, 0, [((-2147483648), 2147483647)], [.inr (.inr (.inl [0])), .inr (.inr (.inl [519, 520, 521])), .inl (some 0, 0), .inl (none, 1)], [((0, 35), (none, 139))], [(1, ((-2147483648), 2147483647), [], [], [((0, 35), (140, 140))])], [(0, 35, 1)])
set_option maxRecDepth 20000 in
abbrev xx_X11_puts_378 : scX := (Tm, invM, lnX11, [], cc_X11_puts_378)
set_option maxRecDepth 20000 in
theorem hh_X11_puts_378 : scH Tm invM cc_X11_puts_378 := scCheck_ok (X := xx_X11_puts_378) (nodes := []) (fuel := 4000) ⟨lqX11, fa_nil⟩ dtX11_puts (by decide +kernel)
