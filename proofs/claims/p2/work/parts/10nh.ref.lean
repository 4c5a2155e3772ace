abbrev cc_X11_puts_259 : scC := (qX11_puts, 0, [((-1000), 200)], [.inr (.inr (.inl [0])), .inr (.inr (.inl [519, 520, 521])), .inl (some 0, 0), .inl (none, 1)], [((0, 35), (none, 20))], [(1, ((-1000), 200), [], [], [((0, 35), (21, 21))])], [(0, 35, 1)])
set_option maxRecDepth 20000 in
abbrev xx_X11_puts_259 : scX := (Tm, invM, lnX11, [], cc_X11_puts_259)
set_option maxRecDepth 20000 in
theorem hh_X11_puts_259 : scH Tm invM cc_X11_puts_259 := scCheck_ok (X := xx_X11_puts_259) (nodes := []) (fuel := 4000) ⟨lqX11, fa_nil⟩ dtX11_puts (by decide +kernel)
abbrev cc_X11_puts_260 : scC := (qX11_puts, 0, [((-1000), 200)], [.inr (.inr (.inl [0])), .inr (.inr (.inl [519, 520, 521])), .inl (some 0, 0), .inl (none, 1)], [((0, 35), (none, 21))], [(1, ((-1000), 200), [], [], [((0, 35), (22, 22))])], [(0, 35, 1)])
set_option maxRecDepth 20000 in
abbrev xx_X11_puts_260 : scX := (Tm, invM, lnX11, [], cc_X11_puts_260)
set_option maxRecDepth 20000 in
theorem hh_X11_puts_260 : scH Tm invM cc_X11_puts_260 := scCheck_ok (X := xx_X11_puts_260) (nodes := []) (fuel := 4000) ⟨lqX11, fa_nil⟩ dtX11_puts (by decide +kernel)
abbrev cc_X11_puts_261 : scC := (qX11_puts, 0, [((-1000), 200)], [.inr (.inr (.inl [0])), .inr (.inr (.inl [519, 520, 521])), .inl (some 0, 0), .inl (none, 1)], [((0, 35), (none, 22))], [(1, ((-1000), 200), [], [], [((0, 35), (23, 23))])], [(0, 35, 1)])
set_option maxRecDepth 20000 in
abbrev xx_X11_puts_261 : scX := (Tm, invM, lnX11, [], cc_X11_puts_261)
set_option maxRecDepth 20000 in
theorem hh_X11_puts_261 : scH Tm invM cc_X11_puts_261 := scCheck_ok (X := xx_X11_puts_261) (nodes := []) (fuel := 4000) ⟨lqX11, fa_nil⟩ dtX11_puts (by decide +kernel)
abbrev cc_X11_puts_262 : scC := (qX11_puts, 0, [((-1000), 200)], [.inr (.inr (.inl [0])), .inr (.inr (.inl [519, 520, 521])), .inl (some 0, 0), .inl (none, 1)], [((0, 35), (none, 23))], [(1, ((-1000), 200), [], [], [((0, 35), (24, 24))])], [(0, 35, 1)])
set_option maxRecDepth 20000 in
abbrev xx_X11_puts_262 : scX := (Tm, invM, lnX11, [], cc_X11_puts_262)
set_option maxRecDepth 20000 in
theorem hh_X11_puts_262 : scH Tm invM cc_X11_puts_262 := scCheck_ok (X := xx_X11_puts_262) (nodes := []) (fuel := 4000) ⟨lqX11, fa_nil⟩ dtX11_puts (by decide +kernel)
abbrev cc_X11_puts_263 : scC := (qX11_puts, 0, [(0, 12)], [.inr (.inr (.inl [0])), .inr (.inr (.inl [519, 520, 521])), .inl (some 0, 0), .inl (none, 1)], [((0, 35), (none, 24))], [(1, (0, 12), [], [], [((0, 35), (25, 25))])], [(0, 35, 1)])
set_option maxRecDepth 20000 in
abbrev xx_X11_puts_263 : scX := (Tm, invM, lnX11, [], cc_X11_puts_263)
set_option maxRecDepth 20000 in
theorem hh_X11_puts_263 : scH Tm invM cc_X11_puts_263 := scCheck_ok (X := xx_X11_puts_263) (nodes := []) (fuel := 4000) ⟨lqX11, fa_nil⟩ dtX11_puts (by decide +kernel)
abbrev cc_X11_puts_264 : scC := (qX11_puts, 0, [(0, 200)], [.inr (.inr (.inl [0])), .inr (.inr (.inl [519, 520, 521])), .inl (some 0, 0), .inl (none, 1)], [((0, 35), (none, 25))], [(1, (0, 200), [], [], [((0, 35), (26, 26))])], [(0, 35, 1)])
set_option maxRecDepth 20000 in
abbrev xx_X11_puts_264 : scX := (Tm, invM, lnX11, [], cc_X11_puts_264)
set_option maxRecDepth 20000 in
theorem hh_X11_puts_264 : scH Tm invM cc_X11_puts_264 := scCheck_ok (X := xx_X11_puts_264) (nodes := []) (fuel := 4000) ⟨lqX11, fa_nil⟩ dtX11_puts (by decide +kernel)
abbrev cc_X11_puts_265 : scC := (qX11_puts, 0, [((-2147483648), 2147483647)], [.inr (.inr (.inl [0])), .inr (.inr (.inl [519, 520, 521])), .inl (some 0, 0), .inl (none, 1)], [((0, 35), (none, 26))], [(1, ((-2147483648), 2147483647), [], [], [((0, 35), (27, 27))])], [(0, 35, 1)])
set_option maxRecDepth 20000 in
abbrev xx_X11_puts_265 : scX := (Tm, invM, lnX11, [], cc_X11_puts_265)
set_option maxRecDepth 20000 in
theorem hh_X11_puts_265 : scH Tm invM cc_X11_puts_265 := scCheck_ok (X := xx_X11_puts_265) (nodes := []) (fuel := 4000) ⟨lqX11, fa_nil⟩ dtX11_puts (by decide +kernel)
abbrev cc_X11_puts_266 : scC := (qX11_puts, 0, [((-2147483648), 2147483647)], [.inr (.inr (.inl [0])), .inr (.inr (.inl [519, 520, 521])), .inl (some 0, 0), .inl (none, 1)], [((0, 35), (none, 27))], [(1, ((-2147483648), 2147483647), [], [], [((0, 35), (28, 28))])], [(0, 35, 1)])
set_option maxRecDepth 20000 in
abbrev xx_X11_puts_266 : scX := (Tm, invM, lnX11, [], cc_X11_puts_266)
set_option maxRecDepth 20000 in
theorem hh_X11_puts_266 : scH Tm invM cc_X11_puts_266 := scCheck_ok (X := xx_X11_puts_266) (nodes := []) (fuel := 4000) ⟨lqX11, fa_nil⟩ dtX11_puts (by decide +kernel)
abbrev cc_X11_puts_267 : scC := (qX11_puts, 0, [((-2147483648), 2147483647)], [.inr (.inr (.inl [0])), .inr (.inr (.inl [519, 520, 521])), .inl (some 0, 0), .inl (none, 1)], [((0, 35), (none, 28))], [(1, ((-2147483648), 2147483647), [], [], [((0, 35), (29, 29))])], [(0, 35, 1)])
set_option maxRecDepth 20000 in
abbrev xx_X11_puts_267 : scX := (Tm, invM, lnX11, [], cc_X11_puts_267)
set_option maxRecDepth 20000 in
theorem hh_X11_puts_267 : scH Tm invM cc_X11_puts_267 := scCheck_ok (X := xx_X11_puts_267) (nodes := []) (fuel := 4000) ⟨lqX11, fa_nil⟩ dtX11_puts (by decide +kernel)
abbrev cc_X11_puts_268 : scC := (qX11_puts, 0, [((-2147483648), 2147483647)], [.inr (.inr (.inl [0])), .inr (.inr (.inl [519, 520, 521])), .inl (some 0, 0), .inl (none, 1)], [((0, 35), (none, 29))], [(1, ((-2147483648), 2147483647), [], [], [((0, 35), (30, 30))])], [(0, 35, 1)])
set_option maxRecDepth 20000 in
abbrev xx_X11_puts_268 : scX := (Tm, invM, lnX11, [], cc_X11_puts_268)
set_option maxRecDepth 20000 in
theorem hh_X11_puts_268 : scH Tm invM cc_X11_puts_268 := scCheck_ok (X := xx_X11_puts_268) (nodes := []) (fuel := 4000) ⟨lqX11, fa_nil⟩ dtX11_puts (by decide +kernel)
abbrev cc_X11_puts_269 : scC := (qX11_puts, 0, [((-1000), 200)], [.inr (.inr (.inl [0])), .inr (.inr (.inl [519, 520, 521])), .inl (some 0, 0), .inl (none, 1)], [((0, 35), (none, 30))], [(1, ((-1000), 200), [], [], [((0, 35), (31, 31))])], [(0, 35, 1)])
set_option maxRecDepth 20000 in
abbrev xx_X11_puts_269 : scX := (Tm, invM, lnX11, [], cc_X11_puts_269)
set_option maxRecDepth 20000 in
theorem hh_X11_puts_269 : scH Tm invM cc_X11_puts_269 := scCheck_ok (X := xx_X11_puts_269) (nodes := []) (fuel := 4000) ⟨lqX11, fa_nil⟩ dtX11_puts (by decide +kernel)
abbrev cc_X11_puts_270 : scC := (qX11_puts, 0, [((-1000), 200)], [.inr (.inr (.inl [0])), .inr (.inr (.inl [519, 520, 521])), .inl (some 0, 0), .inl (none, 1)], [((0, 35), (none, 31))], [(1, ((-1000), 200), [], [], [((0, 35), (32, 32))])], [(0, 35, 1)])
set_option maxRecDepth 20000 in
abbrev xx_X11_puts_270 : scX := (Tm, invM, lnX11, [], cc_X11_puts_270)
set_option maxRecDepth 20000 in
theorem hh_X11_puts_270 : scH Tm invM cc_X11_puts_270 := scCheck_ok (X := xx_X11_puts_270) (nodes := []) (fuel := 4000) ⟨lqX11, fa_nil⟩ dtX11_puts (by decide +kernel)
abbrev cc_X11_puts_271 : scC := (qX11_puts, 0, [((-1000), 200)], [.inr (.inr (.inl [0])), .inr (.inr (.inl [519, 520, 521])), .inl (some 0, 0), .inl (none, 1)], [((0, 35), (none, 32))], [(1, ((-1000), 200), [], [], [((0, 35), (33, 33))])], [(0, 35, 1)])
set_option maxRecDepth 20000 in
abbrev xx_X11_puts_271 : scX := (Tm, invM, lnX11, [], cc_X11_puts_271)
set_option maxRecDepth 20000 in
theorem hh_X11_puts_271 : scH Tm invM cc_X11_puts_271 := scCheck_ok (X := xx_X11_puts_271) (nodes := []) (fuel := 4000) ⟨lqX11, fa_nil⟩ dtX11_puts (by decide +kernel)
abbrev cc_X11_puts_272 : scC := (qX11_puts, 0, [((-1000), 200)], [.inr (.inr (.inl [0])), .inr (.inr (.inl [519, 520, 521])), .inl (some 0, 0), .inl (none, 1)], [((0, 35), (none, 33))], [(1, ((-1000), 200), [], [], [((0, 35), (34, 34))])], [(0, 35, 1)])
set_option maxRecDepth 20000 in
abbrev xx_X11_puts_272 : scX := (Tm, invM, lnX11, [], cc_X11_puts_272)
set_option maxRecDepth 20000 in
theorem hh_X11_puts_272 : scH Tm invM cc_X11_puts_272 := scCheck_ok (X := xx_X11_puts_272) (nodes := []) (fuel := 4000) ⟨lqX11, fa_nil⟩ dtX11_puts (by decide +kernel)
abbrev cc_X11_puts_273 : scC := (qX11_puts, 0, [((-1000), 200)], [.inr (.inr (.inl [0])), .inr (.inr (.inl [519, 520, 521])), .inl (some 0, 0), .inl (none, 1)], [((0, 35), (none, 34))], [(1, ((-1000), 200), [], [], [((0, 35), (35, 35))])], [(0, 35, 1)])
set_option maxRecDepth 20000 in
abbrev xx_X11_puts_273 : scX := (Tm, invM, lnX11, [], cc_X11_puts_273)
set_option maxRecDepth 20000 in
theorem hh_X11_puts_273 : scH Tm invM cc_X11_puts_273 := scCheck_ok (X := xx_X11_puts_273) (nodes := []) (fuel := 4000) ⟨lqX11, fa_nil⟩ dtX11_puts (by decide +kernel)
abbrev cc_X11_puts_274 : scC := (qX11_puts, 0, [((-1000), 200)], [.inr (.inr (.inl [0])), .inr (.inr (.inl [519, 520, 521])), .inl (some 0, 0), .inl (none, 1)], [((0, 35), (none, 35))], [(1, ((-1000), 200), [], [], [((0, 35), (36, 36))])], [(0, 35, 1)])
set_option maxRecDepth 20000 in
abbrev xx_X11_puts_274 : scX := (Tm, invM, lnX11, [], cc_X11_puts_274)
set_option maxRecDepth 20000 in
theorem hh_X11_puts_274 : scH Tm invM cc_X11_puts_274 := scCheck_ok (X := xx_X11_puts_274) (nodes := []) (fuel := 4000) ⟨lqX11, fa_nil⟩ dtX11_puts (by decide +kernel)
abbrev cc_X11_puts_275 : scC := (qX11_puts, 0, [((-1000), 200)], [.inr (.inr (.inl [0])), .inr (.inr (.inl [519, 520, 521])), .inl (some 0, 0), .inl (none, 1)], [((0, 35), (none, 36))], [(1, ((-1000), 200), [], [], [((0, 35), (37, 37))])], [(0, 35, 1)])
set_option maxRecDepth 20000 in
abbrev xx_X11_puts_275 : scX := (Tm, invM, lnX11, [], cc_X11_puts_275)
set_option maxRecDepth 20000 in
theorem hh_X11_puts_275 : scH Tm invM cc_X11_puts_275 := scCheck_ok (X := xx_X11_puts_275) (nodes := []) (fuel := 4000) ⟨lqX11, fa_nil⟩ dtX11_puts (by decide +kernel)
abbrev cc_X11_puts_276 : scC := (qX11_puts, 0, [((-1000), 200)], [.inr (.inr (.inl [0])), .inr (.inr (.inl [519, 520, 521])), .inl (some 0, 0), .inl (none, 1)], [((0, 35), (none, 37))], [(1, ((-1000), 200), [], [], [((0, 35), (38, 38))])], [(0, 35, 1)])
set_option maxRecDepth 20000 in
abbrev xx_X11_puts_276 : scX := (Tm, invM, lnX11, [], cc_X11_puts_276)
set_option maxRecDepth 20000 in
theorem hh_X11_puts_276 : scH Tm invM cc_X11_puts_276 := scCheck_ok (X := xx_X11_puts_276) (nodes := []) (fuel := 4000) ⟨lqX11, fa_nil⟩ dtX11_puts (by decide +kernel)
abbrev cc_X11_puts_277 : scC := (qX11_puts, 0, [(0, 12)], [.inr (.inr (.inl [0])), .inr (.inr (.inl [519, 520, 521])), .inl (some 0, 0), .inl (none, 1)], [((0, 35), (none, 38))], [(1, (0, 12), [], [], [((0, 35), (39, 39))])], [(0, 35, 1)])
set_option maxRecDepth 20000 in
abbrev xx_X11_puts_277 : scX := (Tm, invM, lnX11, [], cc_X11_puts_277)
set_option maxRecDepth 20000 in
theorem hh_X11_puts_277 : scH Tm invM cc_X11_puts_277 := scCheck_ok (X := xx_X11_puts_277) (nodes := []) (fuel := 4000) ⟨lqX11, fa_nil⟩ dtX11_puts (by decide +kernel)
abbrev cc_X11_puts_278 : scC := (qX11_puts, 0, [(0, 200)], [.inr (.inr (.inl [0])), .inr (.inr (.inl [519, 520, 521])), .inl (some 0, 0), .inl (none, 1)], [((0, 35), (none, 39))], [(1, (0, 200), [], [], [((0, 35), (40, 40))])], [(0, 35, 1)])
set_option maxRecDepth 20000 in
abbrev xx_X11_puts_278 : scX := (Tm, invM, lnX11, [], cc_X11_puts_278)
set_option maxRecDepth 20000 in
theorem hh_X11_puts_278 : scH Tm invM cc_X11_puts_278 := scCheck_ok (X := xx_X11_puts_278) (nodes := []) (fuel := 4000) ⟨lqX11, fa_nil⟩ dtX11_puts (by decide +kernel)
abbrev cc_X11_puts_279 : scC := (qX11_puts, 0, [((-2147483648), 2147483647)], [.inr (.inr (.inl [0])), .inr (.inr (.inl [519, 520, 521])), .inl (some 0, 0), .inl (none, 1)], [((0, 35), (none, 40))], [(1, ((-2147483648), 2147483647), [], [], [((0, 35), (41, 41))])], [(0, 35, 1)])
set_option maxRecDepth 20000 in
abbrev xx_X11_puts_279 : scX := (Tm, invM, lnX11, [], cc_X11_puts_279)
set_option maxRecDepth 20000 in
theorem hh_X11_puts_279 : scH Tm invM cc_X11_puts_279 := scCheck_ok (X := xx_X11_puts_279) (nodes := []) (fuel := 4000) ⟨lqX11, fa_nil⟩ dtX11_puts (by decide +kernel)
abbrev cc_X11_puts_280 : scC := (qX11_puts, 0, [((-2147483648), 2147483647)], [.inr (.inr (.inl [0])), .inr (.inr (.inl [519, 520, 521])), .inl (some 0, 0), .inl (none, 1)], [((0, 35), (none, 41))], [(1, ((-2147483648), 2147483647), [], [], [((0, 35), (42, 42))])], [(0, 35, 1)])
set_option maxRecDepth 20000 in
abbrev xx_X11_puts_280 : scX := (Tm, invM, lnX11, [], cc_X11_puts_280)
set_option maxRecDepth 20000 in
theorem hh_X11_puts_280 : scH Tm invM cc_X11_puts_280 := scCheck_ok (X := xx_X11_puts_280) (nodes := []) (fuel := 4000) ⟨lqX11, fa_nil⟩ dtX11_puts (by decide +kernel)
abbrev cc_X11_puts_281 : scC := (qX11_puts, 0, [((-2147483648), 2147483647)], [.inr (.inr (.inl [0])), .inr (.inr (.inl [519, 520, 521])), .inl (some 0, 0), .inl (none, 1)], [((0, 35), (none, 42))], [(1, ((-2147483648), 2147483647), [], [], [((0, 35), (43, 43))])], [(0, 35, 1)])
set_option maxRecDepth 20000 in
abbrev xx_X11_puts_281 : scX := (Tm, invM, lnX11, [], cc_X11_puts_281)
set_option maxRecDepth 20000 in
theorem hh_X11_puts_281 : scH Tm invM cc_X11_puts_281 := scCheck_ok (X := xx_X11_puts_281) (nodes := []) (fuel := 4000) ⟨lqX11, fa_nil⟩ dtX11_puts (by decide +kernel)
abbrev cc_X11_puts_282 : scC := (qX11_puts, 0, [((-2147483648), 2147483647)], [.inr (.inr (.inl [0])), .inr (.inr (.inl [519, 520, 521])), .inl (some 0, 0), .inl (none, 1)], [((0, 35), (none, 43))], [(1, ((-2147483648), 2147483647), [], [], [((0, 35), (44, 44))])], [(0, 35, 1)])
set_option maxRecDepth 20000 in
abbrev xx_X11_puts_282 : scX := (Tm, invM, lnX11, [], cc_X11_puts_282)
set_option maxRecDepth 20000 in
theorem hh_X11_puts_282 : scH Tm invM cc_X11_puts_282 := scCheck_ok (X := xx_X11_puts_282) (nodes := []) (fuel := 4000) ⟨lqX11, fa_nil⟩ dtX11_puts (by decide +kernel)
abbrev cc_X11_puts_283 : scC := (qX11_puts, 0, [((-1000), 200)], [.inr (.inr (.inl [0])), .inr (.inr (.inl [519, 520, 521])), .inl (some 0, 0), .inl (none, 1)], [((0, 35), (none, 44))], [(1, ((-1000), 200), [], [], [((0, 35), (45, 45))])], [(0, 35, 1)])
set_option maxRecDepth 20000 in
abbrev xx_X11_puts_283 : scX := (Tm, invM, lnX11, [], cc_X11_puts_283)
set_option maxRecDepth 20000 in
theorem hh_X11_puts_283 : scH Tm invM cc_X11_puts_283 := scCheck_ok (X := xx_X11_puts_283) (nodes := []) (fuel := 4000) ⟨lqX11, fa_nil⟩ dtX11_puts (by decide +kernel)
abbrev cc_X11_puts_284 : scC := (qX11_puts, 0, [((-1000), 200)], [.inr (.inr (.inl [0])), .inr (.inr (.inl [519, 520, 521])), .inl (some 0, 0), .inl (none, 1)], [((0, 35), (none, 45))], [(1, ((-1000), 200), [], [], [((0, 35), (46, 46))])], [(0, 35, 1)])
set_option maxRecDepth 20000 in
abbrev xx_X11_puts_284 : scX := (Tm, invM, lnX11, [], cc_X11_puts_284)
set_option maxRecDepth 20000 in
theorem hh_X11_puts_284 : scH Tm invM cc_X11_puts_284 := scCheck_ok (X := xx_X11_puts_284) (nodes := []) (fuel := 4000) ⟨lqX11, fa_nil⟩ dtX11_puts (by decide +kernel)
abbrev cc_X11_puts_285 : scC := (qX11_puts, 0, [((-1000), 200)], [.inr (.inr (.inl [0])), .inr (.inr (.inl [519, 520, 521])), .inl (some 0, 0), .inl (none, 1)], [((0, 35), (none, 46))], [(1, ((-1000), 200), [], [], [((0, 35), (47, 47))])], [(0, 35, 1)])
set_option maxRecDepth 20000 in
abbrev xx_X11_puts_285 : scX := (Tm, invM, lnX11, [], cc_X11_puts_285)
set_option maxRecDepth 20000 in
theorem hh_X11_puts_285 : scH Tm invM cc_X11_puts_285 := scCheck_ok (X := xx_X11_puts_285) (nodes := []) (fuel := 4000) ⟨lqX11, fa_nil⟩ dtX11_puts (by decide +kernel)
abbrev cc_X11_puts_286 : scC := (qX11_puts, 0, [((-1000), 200)], [.inr (.inr (.inl [0])), .inr (.inr (.inl [519, 520, 521])), .inl (some 0, 0), .inl (none, 1)], [((0, 35), (none, 47))], [(1, ((-1000), 200), [], [], [((0, 35), (48, 48))])], [(0, 35, 1)])
set_option maxRecDepth 20000 in
abbrev xx_X11_puts_286 : scX := (Tm, invM, lnX11, [], cc_X11_puts_286)
set_option maxRecDepth 20000 in
theorem hh_X11_puts_286 : scH Tm invM cc_X11_puts_286 := scCheck_ok (X := xx_X11_puts_286) (nodes := []) (fuel := 4000) ⟨lqX11, fa_nil⟩ dtX11_puts (by decide +kernel)
abbrev cc_X11_puts_287 : scC := (qX11_puts, 0, [((-1000), 200)], [.inr (.inr (.inl [0])), .inr (.inr (.inl [519, 520, 521])), .inl (some 0, 0), .inl (none, 1)], [((0, 35), (none, 48))], [(1, ((-1000), 200), [], [], [((0, 35), (49, 49))])], [(0, 35, 1)])
set_option maxRecDepth 20000 in
abbrev xx_X11_puts_287 : scX := (Tm, invM, lnX11, [], cc_X11_puts_287)
set_option maxRecDepth 20000 in
theorem hh_X11_puts_287 : scH Tm invM cc_X11_puts_287 := scCheck_ok (X := xx_X11_puts_287) (nodes := []) (fuel := 4000) ⟨lqX11, fa_nil⟩ dtX11_puts (by decide +kernel)
abbrev cc_X11_puts_288 : scC := (qX11_puts, 0, [((-1000), 200)], [.inr (.inr (.inl [0])), .inr (.inr (.inl [519, 520, 521])), .inl (some 0, 0), .inl (none, 1)], [((0, 35), (none, 49))], [(1, ((-1000), 200), [], [], [((0, 35), (50, 50))])], [(0, 35, 1)])
set_option maxRecDepth 20000 in
abbrev xx_X11_puts_288 : scX := (Tm, invM, lnX11, [], cc_X11_puts_288)
set_option maxRecDepth 20000 in
theorem hh_X11_puts_288 : scH Tm invM cc_X11_puts_288 := scCheck_ok (X := xx_X11_puts_288) (nodes := []) (fuel := 4000) ⟨lqX11, fa_nil⟩ dtX11_puts (by decide +kernel)
abbrev cc_X11_puts_289 : scC := (qX11_puts, 0, [((-1000), 200)], [.inr (.inr (.inl [0])), .inr (.inr (.inl [519, 520, 521])), .inl (some 0, 0), .inl (none, 1)], [((0, 35), (none, 50))], [(1, ((-1000), 200), [], [], [((0, 35), (51, 51))])], [(0, 35, 1)])
set_option maxRecDepth 20000 in
abbrev xx_X11_puts_289 : scX := (Tm, invM, lnX11, [], cc_X11_puts_289)
set_option maxRecDepth 20000 in
theorem hh_X11_puts_289 : scH Tm invM cc_X11_puts_289 := scCheck_ok (X := xx_X11_puts_289) (nodes := []) (fuel := 4000) ⟨lqX11, fa_nil⟩ dtX11_puts (by decide +kernel)
abbrev cc_X11_puts_290 : scC := (qX11_puts, 0, [((-1000), 200)], [.inr (.inr (.inl [0])), .inr (.inr (.inl [519, 520, 521])), .inl (some 0, 0), .inl (none, 1)], [((0, 35), (none, 51))], [(1, ((-1000), 200), [], [], [((0, 35), (52, 52))])], [(0, 35, 1)])
set_option maxRecDepth 20000 in
abbrev xx_X11_puts_290 : scX := (Tm, invM, lnX11, [], cc_X11_puts_290)
set_option maxRecDepth 20000 in
theorem hh_X11_puts_290 : scH Tm invM cc_X11_puts_290 := scCheck_ok (X := xx_X11_puts_290) (nodes := []) (fuel := 4000) ⟨lqX11, fa_nil⟩ dtX11_puts (by decide +kernel)
abbrev cc_X11_puts_291 : scC := (qX11_puts, 0, [(0, 12)], [.inr (.inr (.inl [0])), .inr (.inr (.inl [519, 520, 521])), .inl (some 0, 0), .inl (none, 1)], [((0, 35), (none, 52))], [(1, (0, 12), [], [], [((0, 35), (53, 53))])], [(0, 35, 1)])
set_option maxRecDepth 20000 in
abbrev xx_X11_puts_291 : scX := (Tm, invM, lnX11, [], cc_X11_puts_291)
set_option maxRecDepth 20000 in
theorem hh_X11_puts_291 : scH Tm invM cc_X11_puts_291 := scCheck_ok (X := xx_X11_puts_291) (nodes := []) (fuel := 4000) ⟨lqX11, fa_nil⟩ dtX11_puts (by decide +kernel)
abbrev cc_X11_puts_292 : scC := (qX11_puts, 0, [(0, 200)], [.inr (.inr (.inl [0])), .inr (.inr (.inl [519, 520, 521])), .inl (some 0, 0), .inl (none, 1)], [((0, 35), (none, 53))], [(1, (0, 200), [], [], [((0, 35), (54, 54))])], [(0, 35, 1)])
set_option maxRecDepth 20000 in
abbrev xx_X11_puts_292 : scX := (Tm, invM, lnX11, [], cc_X11_puts_292)
set_option maxRecDepth 20000 in
theorem hh_X11_puts_292 : scH Tm invM cc_X11_puts_292 := scCheck_ok (X := xx_X11_puts_292) (nodes := []) (fuel := 4000) ⟨lqX11, fa_nil⟩ dtX11_puts (by decide +kernel)
abbrev cc_X11_puts_293 : scC := (qX11_puts, 0, [((-2147483648), 2147483647)], [.inr (.inr (.inl [0])), .inr (.inr (.inl [519, 520, 521])), .inl (some 0, 0), .inl (none, 1)], [((0, 35), (none, 54))], [(1, ((-2147483648), 2147483647), [], [], [((0, 35), (55, 55))])], [(0, 35, 1)])
set_option maxRecDepth 20000 in
abbrev xx_X11_puts_293 : scX := (Tm, invM, lnX11, [], cc_X11_puts_293)
set_option maxRecDepth 20000 in
theorem hh_X11_puts_293 : scH Tm invM cc_X11_puts_293 := scCheck_ok (X := xx_X11_puts_293) (nodes := []) (fuel := 4000) ⟨lqX11, fa_nil⟩ dtX11_puts (by decide +kernel)
abbrev cc_X11_puts_294 : scC := (qX11_puts, 0, [((-2147483648), 2147483647)], [.inr (.inr (.inl [0])), .inr (.inr (.inl [519, 520, 521])), .inl (some 0, 0), .inl (none, 1)], [((0, 35), (none, 55))], [(1, ((-2147483648), 2147483647), [], [], [((0, 35), (56, 56))])], [(0, 35, 1)])
set_option maxRecDepth 20000 in
abbrev xx_X11_puts_294 : scX := (Tm, invM, lnX11, [], cc_X11_puts_294)
set_option maxRecDepth 20000 in
theorem hh_X11_puts_294 : scH Tm invM cc_X11_puts_294 := scCheck_ok (X := xx_X11_puts_294) (nodes := []) (fuel := 4000) ⟨lqX11, fa_nil⟩ dtX11_puts (by decide +kernel)
abbrev cc_X11_puts_295 : scC := (qX11_puts, 0, [((-2147483648), 2147483647)], [.inr (.inr (.inl [0])), .inr (.inr (.inl [519, 520, 521])), .inl (some 0, 0), .inl (none, 1)], [((0, 35), (none, 56))], [(1, ((-2147483648), 2147483647), [], [], [((0, 35), (57, 57))])], [(0, 35, 1)])
set_option maxRecDepth 20000 in
abbrev xx_X11_puts_295 : scX := (Tm, invM, lnX11, [], cc_X11_puts_295)
set_option maxRecDepth 20000 in
theorem hh_X11_puts_295 : scH Tm invM cc_X11_puts_295 := scCheck_ok (X := xx_X11_puts_295) (nodes := []) (fuel := 4000) ⟨lqX11, fa_nil⟩ dtX11_puts (by decide +kernel)
abbrev cc_X11_puts_296 : scC := (qX11_puts, 0, [((-2147483648), 2147483647)], [.inr (.inr (.inl [0])), .inr (.inr (.inl [519, 520, 521])), .inl (some 0, 0), .inl (none, 1)], [((0, 35), (none, 57))], [(1, ((-2147483648), 2147483647), [], [], [((0, 35), (58, 58))])], [(0, 35, 1)])
set_option maxRecDepth 20000 in
abbrev xx_X11_puts_296 : scX := (Tm, invM, lnX11, [], cc_X11_puts_296)
set_option maxRecDepth 20000 in
theorem hh_X11_puts_296 : scH Tm invM cc_X11_puts_296 := scCheck_ok (X := xx_X11_puts_296) (nodes := []) (fuel := 4000) ⟨lqX11, fa_nil⟩ dtX11_puts (by decide +kernel)
abbrev cc_X11_puts_297 : scC := (qX11_puts, 0, [((-1000), 200)], [.inr (.inr (.inl [0])), .inr (.inr (.inl [519, 520, 521])), .inl (some 0, 0), .inl (none, 1)], [((0, 35), (none, 58))], [(1, ((-1000), 200), [], [], [((0, 35), (59, 59))])], [(0, 35, 1)])
set_option maxRecDepth 20000 in
abbrev xx_X11_puts_297 : scX := (Tm, invM, lnX11, [], cc_X11_puts_297)
set_option maxRecDepth 20000 in
theorem hh_X11_puts_297 : scH Tm invM cc_X11_puts_297 := scCheck_ok (X := xx_X11_puts_297) (nodes := []) (fuel := 4000) ⟨lqX11, fa_nil⟩ dtX11_puts (by decide +kernel)
abbrev cc_X11_puts_298 : scC := (qX11_puts, 0, [((-1000), 200)], [.inr (.inr (.inl [0])), .inr (.inr (.inl [519, 520, 521])), .inl (some 0, 0), .inl (none, 1)], [((0, 35), (none, 59))], [(1, ((-1000), 200), [], [], [((0, 35), (60, 60))])], [(0, 35, 1)])
set_option maxRecDepth 20000 in
abbrev xx_X11_puts_298 : scX := (Tm, invM, lnX11, [], cc_X11_puts_298)
set_option maxRecDepth 20000 in
theorem hh_X11_puts_298 : scH Tm invM cc_X11_puts_298 := scCheck_ok (X := xx_X11_puts_298) (nodes := []) (fuel := 4000) ⟨lqX11, fa_nil⟩ dtX11_puts (by decide +kernel)
abbrev cc_X11_puts_299 : scC := (qX11_puts, 0, [((-1000), 200)], [.inr (.inr (.inl [0])), .inr (.inr (.inl [519, 520, 521])), .inl (some 0, 0), .inl (none, 1)], [((0, 35), (none, 60))], [(1, ((-1000), 200), [], [], [((0, 35), (61, 61))])], [(0, 35, 1)])
set_option maxRecDepth 20000 in
abbrev xx_X11_puts_299 : scX := (Tm, invM, lnX11, [], cc_X11_puts_299)
set_option maxRecDepth 20000 in
theorem hh_X11_puts_299 : scH Tm invM cc_X11_puts_299 := scCheck_ok (X := xx_X11_puts_299) (nodes := []) (fuel := 4000) ⟨lqX11, fa_nil⟩ dtX11_puts (by decide +kernel)
abbrev cc_X11_puts_300 : scC := (qX11_puts, 0, [((-1000), 200)], [.inr (.inr (.inl [0])), .inr (.inr (.inl [519, 520, 521])), .inl (some 0, 0), .inl (none, 1)], [((0, 35), (none, 61))], [(1, ((-1000), 200), [], [], [((0, 35), (62, 62))])], [(0, 35, 1)])
set_option maxRecDepth 20000 in
abbrev xx_X11_puts_300 : scX := (Tm, invM, lnX11, [], cc_X11_puts_300)
set_option maxRecDepth 20000 in
theorem hh_X11_puts_300 : scH Tm invM cc_X11_puts_300 := scCheck_ok (X := xx_X11_puts_300) (nodes := []) (fuel := 4000) ⟨lqX11, fa_nil⟩ dtX11_puts (by decide +kernel)
abbrev cc_X11_puts_301 : scC := (qX11_puts, 0, [((-1000), 200)], [.inr (.inr (.inl [0])), .inr (.inr (.inl [519, 520, 521])), .inl (some 0, 0), .inl (none, 1)], [((0, 35), (none, 62))], [(1, ((-1000), 200), [], [], [((0, 35), (63, 63))])], [(0, 35, 1)])
set_option maxRecDepth 20000 in
abbrev xx_X11_puts_301 : scX := (Tm, invM, lnX11, [], cc_X11_puts_301)
set_option maxRecDepth 20000 in
theorem hh_X11_puts_301 : scH Tm invM cc_X11_puts_301 := scCheck_ok (X := xx_X11_puts_301) (nodes := []) (fuel := 4000) ⟨lqX11, fa_nil⟩ dtX11_puts (by decide +kernel)
abbrev cc_X11_puts_302 : scC := (qX11_puts, 0, [((-1000), 200)], [.inr (.inr (.inl [0])), .inr (.inr (.inl [519, 520, 521])), .inl (some 0, 0), .inl (none, 1)], [((0, 35), (none, 63))], [(1, ((-1000), 200), [], [], [((0, 35), (64, 64))])], [(0, 35, 1)])
set_option maxRecDepth 20000 in
abbrev xx_X11_puts_302 : scX := (Tm, invM, lnX11, [], cc_X11_puts_302)
set_option maxRecDepth 20000 in
theorem hh_X11_puts_302 : scH Tm invM cc_X11_puts_302 := scCheck_ok (X := xx_X11_puts_302) (nodes := []) (fuel := 4000) ⟨lqX11, fa_nil⟩ dtX11_puts (by decide +kernel)
abbrev cc_X11_puts_303 : scC := (qX11_puts, 0, [((-1000), 200)], [.inr (.inr (.inl [0])), .inr (.inr (.inl [519, 520, 521])), .inl (some 0, 0), .inl (none, 1)], [((0, 35), (none, 64))], [(1, ((-1000), 200), [], [], [((0, 35), (65, 65))])], [(0, 35, 1)])
set_option maxRecDepth 20000 in
abbrev xx_X11_puts_303 : scX := (Tm, invM, lnX11, [], cc_X11_puts_303)
set_option maxRecDepth 20000 in
theorem hh_X11_puts_303 : scH Tm invM cc_X11_puts_303 := scCheck_ok (X := xx_X11_puts_303) (nodes := []) (fuel := 4000) ⟨lqX11, fa_nil⟩ dtX11_puts (by decide +kernel)
abbrev cc_X11_puts_304 : scC := (qX11_puts, 0, [((-1000), 200)], [.inr (.inr (.inl [0])), .inr (.inr (.inl [519, 520, 521])), .inl (some 0, 0), .inl (none, 1)], [((0, 35), (none, 65))], [(1, ((-1000), 200), [], [], [((0, 35), (66, 66))])], [(0, 35, 1)])
set_option maxRecDepth 20000 in
abbrev xx_X11_puts_304 : scX := (Tm, invM, lnX11, [], cc_X11_puts_304)
set_option maxRecDepth 20000 in
theorem hh_X11_puts_304 : scH Tm invM cc_X11_puts_304 := scCheck_ok (X := xx_X11_puts_304) (nodes := []) (fuel := 4000) ⟨lqX11, fa_nil⟩ dtX11_puts (by decide +kernel)
abbrev cc_X11_puts_305 : scC := (qX11_puts, 0, [(0, 12)], [.inr (.inr (.inl [0])), .inr (.inr (.inl [519, 520, 521])), .inl (some 0, 0), .inl (none, 1)], [((0, 35), (none, 66))], [(1, (0, 12), [], [], [((0, 35), (67, 67))])], [(0, 35, 1)])
set_option maxRecDepth 20000 in
abbrev xx_X11_puts_305 : scX := (Tm, invM, lnX11, [], cc_X11_puts_305)
set_option maxRecDepth 20000 in
theorem hh_X11_puts_305 : scH Tm invM cc_X11_puts_305 := scCheck_ok (X := xx_X11_puts_305) (nodes := []) (fuel := 4000) ⟨lqX11, fa_nil⟩ dtX11_puts (by decide +kernel)
abbrev cc_X11_puts_306 : scC := (qX11_puts, 0, [(0, 200)], [.inr (.inr (.inl [0])), .inr (.inr (.inl [519, 520, 521])), .inl (some 0, 0), .inl (none, 1)], [((0, 35), (none, 67))], [(1, (0, 200), [], [], [((0, 35), (68, 68))])], [(0, 35, 1)])
set_option maxRecDepth 20000 in
abbrev xx_X11_puts_306 : scX := (Tm, invM, lnX11, [], cc_X11_puts_306)
set_option maxRecDepth 20000 in
theorem hh_X11_puts_306 : scH Tm invM cc_X11_puts_306 := scCheck_ok (X := xx_X11_puts_306) (nodes := []) (fuel := 4000) ⟨lqX11, fa_nil⟩ dtX11_puts (by decide +kernel)
abbrev cc_X11_puts_307 : scC := (qX11_puts, 0, [((-2147483648), 2147483647)], [.inr (.inr (.inl [0])), .inr (.inr (.inl [519, 520, 521])), .inl (some 0, 0), .inl (none, 1)], [((0, 35), (none, 68))], [(1, ((-2147483648), 2147483647), [], [], [((0, 35), (69, 69))])], [(0, 35, 1)])
set_option maxRecDepth 20000 in
abbrev xx_X11_puts_307 : scX := (Tm, invM, lnX11, [], cc_X11_puts_307)
set_option maxRecDepth 20000 in
theorem hh_X11_puts_307 : scH Tm invM cc_X11_puts_307 := scCheck_ok (X := xx_X11_puts_307) (nodes := []) (fuel := 4000) ⟨lqX11, fa_nil⟩ dtX11_puts (by decide +kernel)
abbrev cc_X11_puts_308 : scC := (qX11_puts, 0, [((-2147483648), 2147483647)], [.inr (.inr (.inl [0])), .inr (.inr (.inl [519, 520, 521])), .inl (some 0, 0), .inl (none, 1)], [((0, 35), (none, 69))], [(1, ((-2147483648), 2147483647), [], [], [((0, 35), (70, 70))])], [(0, 35, 1)])
set_option maxRecDepth 20000 in
abbrev xx_X11_puts_308 : scX := (Tm, invM, lnX11, [], cc_X11_puts_308)
set_option maxRecDepth 20000 in
theorem hh_X11_puts_308 : scH Tm invM cc_X11_puts_308 := scCheck_ok (X := xx_X11_puts_308) (nodes := []) (fuel := 4000) ⟨lqX11, fa_nil⟩ dtX11_puts (by decide +kernel)
abbrev cc_X11_puts_309 : scC := (qX11_puts, 0, [((-2147483648), 2147483647)], [.inr (.inr (.inl [0])), .inr (.inr (.inl [519, 520, 521])), .inl (some 0, 0), .inl (none, 1)], [((0, 35), (none, 70))], [(1, ((-2147483648), 2147483647), [], [], [((0, 35), (71, 71))])], [(0, 35, 1)])
set_option maxRecDepth 20000 in
abbrev xx_X11_puts_309 : scX := (Tm, invM, lnX11, [], cc_X11_puts_309)
set_option maxRecDepth 20000 in
theorem hh_X11_puts_309 : scH Tm invM cc_X11_puts_309 := scCheck_ok (X := xx_X11_puts_309) (nodes := []) (fuel := 4000) ⟨lqX11, fa_nil⟩ dtX11_puts (by decide +kernel)
abbrev cc_X11_puts_310 : scC := (qX11_puts, 0, [((-2147483648), 2147483647)], [.inr (.inr (.inl [0])), .inr (.inr (.inl [519, 520, 521])), .inl (some 0, 0), .inl (none, 1)], [((0, 35), (none, 71))], [(1, ((-2147483648), 2147483647), [], [], [((0, 35), (72, 72))])], [(0, 35, 1)])
set_option maxRecDepth 20000 in
abbrev xx_X11_puts_310 : scX := (Tm, invM, lnX11, [], cc_X11_puts_310)
set_option maxRecDepth 20000 in
theorem hh_X11_puts_310 : scH Tm invM cc_X11_puts_310 := scCheck_ok (X := xx_X11_puts_310) (nodes := []) (fuel := 4000) ⟨lqX11, fa_nil⟩ dtX11_puts (by decide +kernel)
abbrev cc_X11_puts_311 : scC := (qX11_puts, 0, [((-1000), 200)], [.inr (.inr (.inl [0])), .inr (.inr (.inl [519, 520, 521])), .inl (some 0, 0), .inl (none, 1)], [((0, 35), (none, 72))], [(1, ((-1000), 200), [], [], [((0, 35), (73, 73))])], [(0, 35, 1)])
set_option maxRecDepth 20000 in
abbrev xx_X11_puts_311 : scX := (Tm, invM, lnX11, [], cc_X11_puts_311)
set_option maxRecDepth 20000 in
theorem hh_X11_puts_311 : scH Tm invM cc_X11_puts_311 := scCheck_ok (X := xx_X11_puts_311) (nodes := []) (fuel := 4000) ⟨lqX11, fa_nil⟩ dtX11_puts (by decide +kernel)
abbrev cc_X11_puts_312 : scC := (qX11_puts, 0, [((-1000), 200)], [.inr (.inr (.inl [0])), .inr (.inr (.inl [519, 520, 521])), .inl (some 0, 0), .inl (none, 1)], [((0, 35), (none, 73))], [(1, ((-1000), 200), [], [], [((0, 35), (74, 74))])], [(0, 35, 1)])
set_option maxRecDepth 20000 in
abbrev xx_X11_puts_312 : scX := (Tm, invM, lnX11, [], cc_X11_puts_312)
set_option maxRecDepth 20000 in
theorem hh_X11_puts_312 : scH Tm invM cc_X11_puts_312 := scCheck_ok (X := xx_X11_puts_312) (nodes := []) (fuel := 4000) ⟨lqX11, fa_nil⟩ dtX11_puts (by decide +kernel)
abbrev cc_X11_puts_313 : scC := (qX11_puts, 0, [((-1000), 200)], [.inr (.inr (.inl [0])), .inr (.inr (.inl [519, 520, 521])), .inl (some 0, 0), .inl (none, 1)], [((0, 35), (none, 74))], [(1, ((-1000), 200), [], [], [((0, 35), (75, 75))])], [(0, 35, 1)])
set_option maxRecDepth 20000 in
abbrev xx_X11_puts_313 : scX := (Tm, invM, lnX11, [], cc_X11_puts_313)
set_option maxRecDepth 20000 in
theorem hh_X11_puts_313 : scH Tm invM cc_X11_puts_313 := scCheck_ok (X := xx_X11_puts_313) (nodes := []) (fuel := 4000) ⟨lqX11, fa_nil⟩ dtX11_puts (by decide +kernel)
abbrev cc_X11_puts_314 : scC := (qX11_puts, 0, [((-1000), 200)], [.inr (.inr (.inl [0])), .inr (.inr (.inl [519, 520, 521])), .inl (some 0, 0), .inl (none, 1)], [((0, 35), (none, 75))], [(1, ((-1000), 200), [], [], [((0, 35), (76, 76))])], [(0, 35, 1)])
set_option maxRecDepth 20000 in
abbrev xx_X11_puts_314 : scX := (Tm, invM, lnX11, [], cc_X11_puts_314)
set_option maxRecDepth 20000 in
theorem hh_X11_puts_314 : scH Tm invM cc_X11_puts_314 := scCheck_ok (X := xx_X11_puts_314) (nodes := []) (fuel := 4000) ⟨lqX11, fa_nil⟩ dtX11_puts (by decide +kernel)
abbrev cc_X11_puts_315 : scC := (qX11_puts, 0, [((-1000), 200)], [.inr (.inr (.inl [0])), .inr (.inr (.inl [519, 520, 521])), .inl (some 0, 0), .inl (none, 1)], [((0, 35), (none, 76))], [(1, ((-1000), 200), [], [], [((0, 35), (77, 77))])], [(0, 35, 1)])
set_option maxRecDepth 20000 in
abbrev xx_X11_puts_315 : scX := (Tm, invM, lnX11, [], cc_X11_puts_315)
set_option maxRecDepth 20000 in
theorem hh_X11_puts_315 : scH Tm invM cc_X11_puts_315 := scCheck_ok (X := xx_X11_puts_315) (nodes := []) (fuel := 4000) ⟨lqX11, fa_nil⟩ dtX11_puts (by decide +kernel)
abbrev cc_X11_puts_316 : scC := (qX11_puts, 0, [((-1000), 200)], [.inr (.inr (.inl [0])), .inr (.inr (.inl [519, 520, 521])), .inl (some 0, 0), .inl (none, 1)], [((0, 35), (none, 77))], [(1, ((-1000), 200), [], [], [((0, 35), (78, 78))])], [(0, 35, 1)])
set_option maxRecDepth 20000 in
abbrev xx_X11_puts_316 : scX := (Tm, invM, lnX11, [], cc_X11_puts_316)
set_option maxRecDepth 20000 in
theorem hh_X11_puts_316 : scH Tm invM cc_X11_puts_316 := scCheck_ok (X := xx_X11_puts_316) (nodes := []) (fuel := 4000) ⟨lqX11, fa_nil⟩ dtX11_puts (by decide +kernel)
abbrev cc_X11_puts_317 : scC := (qX11_puts, 0, [((-1000), 200)], [.inr (.inr (.inl [0])), .inr (.inr (.inl [519, 520, 521])), .inl (some 0, 0), .inl (none, 1)], [((0, 35), (none, 78))], [(1, ((-1000), 200), [], [], [((0, 35), (79, 79))])], [(0, 35, 1)])
set_option maxRecDepth 20000 in
abbrev xx_X11_puts_317 : scX := (Tm, invM, lnX11, [], cc_X11_puts_317)
set_option maxRecDepth 20000 in
theorem hh_X11_puts_317 : scH Tm invM cc_X11_puts_317 := scCheck_ok (X := xx_X11_puts_317) (nodes := []) (fuel := 4000) ⟨lqX11, fa_nil⟩ dtX11_puts (by decide +kernel)
abbrev cc_X11_puts_318 : scC := (qX11_puts, 0, [((-1000), 200)], [.inr (.inr (.inl [0])), .inr (.inr (.inl [519, 520, 521])), .inl (some 0, 0), .inl (none, 1)], [((0, 35), (none, 79))], [(1, ((-1000), 200), [], [], [((0, 35), (80, 80))])], [(0, 35, 1)])
set_option maxRecDepth 20000 in
abbrev xx_X11_puts_318 : scX := (Tm, invM, lnX11, [], cc_X11_puts_318)
set_option maxRecDepth 20000 in
theorem hh_X11_puts_318 : scH Tm invM cc_X11_puts_318 := scCheck_ok (X := xx_X11_puts_318) (nodes := []) (fuel := 4000) ⟨lqX11, fa_nil⟩ dtX11_puts (by decide +kernel)
