abbrev cc_X11_puts_201 : scC := (qX11_puts, 0, [((-1000), 200)], [.inr (.inr (.inl [0])), .inr (.inr (.inl [519, 520, 521])), .inl (some 0, 0), .inl (none, 0)], [((0, 35), (none, 201))], [(1, ((-1000), 200), [], [], [((0, 35), (202, 202))])], [(0, 35, 1), (519, 201, 1), (520, 201, 1), (521, 201, 1)])
set_option maxRecDepth 20000 in
abbrev xx_X11_puts_201 : scX := (Tm, invM, lnX11, [], cc_X11_puts_201)
set_option maxRecDepth 20000 in
theorem hh_X11_puts_201 : scH Tm invM cc_X11_puts_201 := scCheck_ok (X := xx_X11_puts_201) (nodes := []) (fuel := 4000) ⟨lqX11, fa_nil⟩ dtX11_puts (by decide +kernel)
abbrev cc_X11_puts_202 : scC := (qX11_puts, 0, [((-1000), 200)], [.inr (.inr (.inl [0])), .inr (.inr (.inl [519, 520, 521])), .inl (some 0, 0), .inl (none, 0)], [((0, 35), (none, 202))], [(1, ((-1000), 200), [], [], [((0, 35), (203, 203))])], [(0, 35, 1), (519, 202, 1), (520, 202, 1), (521, 202, 1)])
set_option maxRecDepth 20000 in
abbrev xx_X11_puts_202 : scX := (Tm, invM, lnX11, [], cc_X11_puts_202)
set_option maxRecDepth 20000 in
theorem hh_X11_puts_202 : scH Tm invM cc_X11_puts_202 := scCheck_ok (X := xx_X11_puts_202) (nodes := []) (fuel := 4000) ⟨lqX11, fa_nil⟩ dtX11_puts (by decide +kernel)
abbrev cc_X11_puts_203 : scC := (qX11_puts, 0, [((-1000), 200)], [.inr (.inr (.inl [0])), .inr (.inr (.inl [519, 520, 521])), .inl (some 0, 0), .inl (none, 0)], [((0, 35), (none, 203))], [(1, ((-1000), 200), [], [], [((0, 35), (204, 204))])], [(0, 35, 1), (519, 203, 1), (520, 203, 1), (521, 203, 1)])
set_option maxRecDepth 20000 in
abbrev xx_X11_puts_203 : scX := (Tm, invM, lnX11, [], cc_X11_puts_203)
set_option maxRecDepth 20000 in
theorem hh_X11_puts_203 : scH Tm invM cc_X11_puts_203 := scCheck_ok (X := xx_X11_puts_203) (nodes := []) (fuel := 4000) ⟨lqX11, fa_nil⟩ dtX11_puts (by decide +kernel)
abbrev cc_X11_puts_204 : scC := (qX11_puts, 0, [((-1000), 200)], [.inr (.inr (.inl [0])), .inr (.inr (.inl [519, 520, 521])), .inl (some 0, 0), .inl (none, 0)], [((0, 35), (none, 204))], [(1, ((-1000), 200), [], [], [((0, 35), (205, 205))])], [(0, 35, 1), (519, 204, 1), (520, 204, 1), (521, 204, 1)])
set_option maxRecDepth 20000 in
abbrev xx_X11_puts_204 : scX := (Tm, invM, lnX11, [], cc_X11_puts_204)
set_option maxRecDepth 20000 in
theorem hh_X11_puts_204 : scH Tm invM cc_X11_puts_204 := scCheck_ok (X := xx_X11_puts_204) (nodes := []) (fuel := 4000) ⟨lqX11, fa_nil⟩ dtX11_puts (by decide +kernel)
abbrev cc_X11_puts_205 : scC := (qX11_puts, 0, [((-1000), 200)], [.inr (.inr (.inl [0])), .inr (.inr (.inl [519, 520, 521])), .inl (some 0, 0), .inl (none, 0)], [((0, 35), (none, 205))], [(1, ((-1000), 200), [], [], [((0, 35), (206, 206))])], [(0, 35, 1), (519, 205, 1), (520, 205, 1), (521, 205, 1)])
set_option maxRecDepth 20000 in
abbrev xx_X11_puts_205 : scX := (Tm, invM, lnX11, [], cc_X11_puts_205)
set_option maxRecDepth 20000 in
theorem hh_X11_puts_205 : scH Tm invM cc_X11_puts_205 := scCheck_ok (X := xx_X11_puts_205) (nodes := []) (fuel := 4000) ⟨lqX11, fa_nil⟩ dtX11_puts (by decide +kernel)
abbrev cc_X11_puts_206 : scC := (qX11_puts, 0, [(0, 12)], [.inr (.inr (.inl [0])), .inr (.inr (.inl [519, 520, 521])), .inl (some 0, 0), .inl (none, 0)], [((0, 35), (none, 206))], [(1, (0, 12), [], [], [((0, 35), (207, 207))])], [(0, 35, 1), (519, 206, 1), (520, 206, 1), (521, 206, 1)])
set_option maxRecDepth 20000 in
abbrev xx_X11_puts_206 : scX := (Tm, invM, lnX11, [], cc_X11_puts_206)
set_option maxRecDepth 20000 in
theorem hh_X11_puts_206 : scH Tm invM cc_X11_puts_206 := scCheck_ok (X := xx_X11_puts_206) (nodes := []) (fuel := 4000) ⟨lqX11, fa_nil⟩ dtX11_puts (by decide +kernel)
abbrev cc_X11_puts_207 : scC := (qX11_puts, 0, [(0, 200)], [.inr (.inr (.inl [0])), .inr (.inr (.inl [519, 520, 521])), .inl (some 0, 0), .inl (none, 0)], [((0, 35), (none, 207))], [(1, (0, 200), [], [], [((0, 35), (208, 208))])], [(0, 35, 1), (519, 207, 1), (520, 207, 1), (521, 207, 1)])
set_option maxRecDepth 20000 in
abbrev xx_X11_puts_207 : scX := (Tm, invM, lnX11, [], cc_X11_puts_207)
set_option maxRecDepth 20000 in
theorem hh_X11_puts_207 : scH Tm invM cc_X11_puts_207 := scCheck_ok (X := xx_X11_puts_207) (nodes := []) (fuel := 4000) ⟨lqX11, fa_nil⟩ dtX11_puts (by decide +kernel)
abbrev cc_X11_puts_208 : scC := (qX11_puts, 0, [((-2147483648), 2147483647)], [.inr (.inr (.inl [0])), .inr (.inr (.inl [519, 520, 521])), .inl (some 0, 0), .inl (none, 0)], [((0, 35), (none, 208))], [(1, ((-2147483648), 2147483647), [], [], [((0, 35), (209, 209))])], [(0, 35, 1), (519, 208, 1), (520, 208, 1), (521, 208, 1)])
set_option maxRecDepth 20000 in
abbrev xx_X11_puts_208 : scX := (Tm, invM, lnX11, [], cc_X11_puts_208)
set_option maxRecDepth 20000 in
theorem hh_X11_puts_208 : scH Tm invM cc_X11_puts_208 := scCheck_ok (X := xx_X11_puts_208) (nodes := []) (fuel := 4000) ⟨lqX11, fa_nil⟩ dtX11_puts (by decide +kernel)
abbrev cc_X11_puts_209 : scC := (qX11_puts, 0, [((-2147483648), 2147483647)], [.inr (.inr (.inl [0])), .inr (.inr (.inl [519, 520, 521])), .inl (some 0, 0), .inl (none, 0)], [((0, 35), (none, 209))], [(1, ((-2147483648), 2147483647), [], [], [((0, 35), (210, 210))])], [(0, 35, 1), (519, 209, 1), (520, 209, 1), (521, 209, 1)])
set_option maxRecDepth 20000 in
abbrev xx_X11_puts_209 : scX := (Tm, invM, lnX11, [], cc_X11_puts_209)
set_option maxRecDepth 20000 in
theorem hh_X11_puts_209 : scH Tm invM cc_X11_puts_209 := scCheck_ok (X := xx_X11_puts_209) (nodes := []) (fuel := 4000) ⟨lqX11, fa_nil⟩ dtX11_puts (by decide +kernel)
abbrev cc_X11_puts_210 : scC := (qX11_puts, 0, [((-2147483648), 2147483647)], [.inr (.inr (.inl [0])), .inr (.inr (.inl [519, 520, 521])), .inl (some 0, 0), .inl (none, 0)], [((0, 35), (none, 210))], [(1, ((-2147483648), 2147483647), [], [], [((0, 35), (211, 211))])], [(0, 35, 1), (519, 210, 1), (520, 210, 1), (521, 210, 1)])
set_option maxRecDepth 20000 in
abbrev xx_X11_puts_210 : scX := (Tm, invM, lnX11, [], cc_X11_puts_210)
set_option maxRecDepth 20000 in
theorem hh_X11_puts_210 : scH Tm invM cc_X11_puts_210 := scCheck_ok (X := xx_X11_puts_210) (nodes := []) (fuel := 4000) ⟨lqX11, fa_nil⟩ dtX11_puts (by decide +kernel)
abbrev cc_X11_puts_211 : scC := (qX11_puts, 0, [((-2147483648), 2147483647)], [.inr (.inr (.inl [0])), .inr (.inr (.inl [519, 520, 521])), .inl (some 0, 0), .inl (none, 0)], [((0, 35), (none, 211))], [(1, ((-2147483648), 2147483647), [], [], [((0, 35), (212, 212))])], [(0, 35, 1), (519, 211, 1), (520, 211, 1), (521, 211, 1)])
set_option maxRecDepth 20000 in
abbrev xx_X11_puts_211 : scX := (Tm, invM, lnX11, [], cc_X11_puts_211)
set_option maxRecDepth 20000 in
theorem hh_X11_puts_211 : scH Tm invM cc_X11_puts_211 := scCheck_ok (X := xx_X11_puts_211) (nodes := []) (fuel := 4000) ⟨lqX11, fa_nil⟩ dtX11_puts (by decide +kernel)
abbrev cc_X11_puts_212 : scC := (qX11_puts, 0, [((-1000), 200)], [.inr (.inr (.inl [0])), .inr (.inr (.inl [519, 520, 521])), .inl (some 0, 0), .inl (none, 0)], [((0, 35), (none, 212))], [(1, ((-1000), 200), [], [], [((0, 35), (213, 213))])], [(0, 35, 1), (519, 212, 1), (520, 212, 1), (521, 212, 1)])
set_option maxRecDepth 20000 in
abbrev xx_X11_puts_212 : scX := (Tm, invM, lnX11, [], cc_X11_puts_212)
set_option maxRecDepth 20000 in
theorem hh_X11_puts_212 : scH Tm invM cc_X11_puts_212 := scCheck_ok (X := xx_X11_puts_212) (nodes := []) (fuel := 4000) ⟨lqX11, fa_nil⟩ dtX11_puts (by decide +kernel)
abbrev cc_X11_puts_213 : scC := (qX11_puts, 0, [((-1000), 200)], [.inr (.inr (.inl [0])), .inr (.inr (.inl [519, 520, 521])), .inl (some 0, 0), .inl (none, 0)], [((0, 35), (none, 213))], [(1, ((-1000), 200), [], [], [((0, 35), (214, 214))])], [(0, 35, 1), (519, 213, 1), (520, 213, 1), (521, 213, 1)])
set_option maxRecDepth 20000 in
abbrev xx_X11_puts_213 : scX := (Tm, invM, lnX11, [], cc_X11_puts_213)
set_option maxRecDepth 20000 in
theorem hh_X11_puts_213 : scH Tm invM cc_X11_puts_213 := scCheck_ok (X := xx_X11_puts_213) (nodes := []) (fuel := 4000) ⟨lqX11, fa_nil⟩ dtX11_puts (by decide +kernel)
abbrev cc_X11_puts_214 : scC := (qX11_puts, 0, [((-1000), 200)], [.inr (.inr (.inl [0])), .inr (.inr (.inl [519, 520, 521])), .inl (some 0, 0), .inl (none, 0)], [((0, 35), (none, 214))], [(1, ((-1000), 200), [], [], [((0, 35), (215, 215))])], [(0, 35, 1), (519, 214, 1), (520, 214, 1), (521, 214, 1)])
set_option maxRecDepth 20000 in
abbrev xx_X11_puts_214 : scX := (Tm, invM, lnX11, [], cc_X11_puts_214)
set_option maxRecDepth 20000 in
theorem hh_X11_puts_214 : scH Tm invM cc_X11_puts_214 := scCheck_ok (X := xx_X11_puts_214) (nodes := []) (fuel := 4000) ⟨lqX11, fa_nil⟩ dtX11_puts (by decide +kernel)
abbrev cc_X11_puts_215 : scC := (qX11_puts, 0, [((-1000), 200)], [.inr (.inr (.inl [0])), .inr (.inr (.inl [519, 520, 521])), .inl (some 0, 0), .inl (none, 0)], [((0, 35), (none, 215))], [(1, ((-1000), 200), [], [], [((0, 35), (216, 216))])], [(0, 35, 1), (519, 215, 1), (520, 215, 1), (521, 215, 1)])
set_option maxRecDepth 20000 in
abbrev xx_X11_puts_215 : scX := (Tm, invM, lnX11, [], cc_X11_puts_215)
set_option maxRecDepth 20000 in
theorem hh_X11_puts_215 : scH Tm invM cc_X11_puts_215 := scCheck_ok (X := xx_X11_puts_215) (nodes := []) (fuel := 4000) ⟨lqX11, fa_nil⟩ dtX11_puts (by decide +kernel)
abbrev cc_X11_puts_216 : scC := (qX11_puts, 0, [((-1000), 200)], [.inr (.inr (.inl [0])), .inr (.inr (.inl [519, 520, 521])), .inl (some 0, 0), .inl (none, 0)], [((0, 35), (none, 216))], [(1, ((-1000), 200), [], [], [((0, 35), (217, 217))])], [(0, 35, 1), (519, 216, 1), (520, 216, 1), (521, 216, 1)])
set_option maxRecDepth 20000 in
abbrev xx_X11_puts_216 : scX := (Tm, invM, lnX11, [], cc_X11_puts_216)
set_option maxRecDepth 20000 in
theorem hh_X11_puts_216 : scH Tm invM cc_X11_puts_216 := scCheck_ok (X := xx_X11_puts_216) (nodes := []) (fuel := 4000) ⟨lqX11, fa_nil⟩ dtX11_puts (by decide +kernel)
abbrev cc_X11_puts_217 : scC := (qX11_puts, 0, [((-1000), 200)], [.inr (.inr (.inl [0])), .inr (.inr (.inl [519, 520, 521])), .inl (some 0, 0), .inl (none, 0)], [((0, 35), (none, 217))], [(1, ((-1000), 200), [], [], [((0, 35), (218, 218))])], [(0, 35, 1), (519, 217, 1), (520, 217, 1), (521, 217, 1)])
set_option maxRecDepth 20000 in
abbrev xx_X11_puts_217 : scX := (Tm, invM, lnX11, [], cc_X11_puts_217)
set_option maxRecDepth 20000 in
theorem hh_X11_puts_217 : scH Tm invM cc_X11_puts_217 := scCheck_ok (X := xx_X11_puts_217) (nodes := []) (fuel := 4000) ⟨lqX11, fa_nil⟩ dtX11_puts (by decide +kernel)
abbrev cc_X11_puts_218 : scC := (qX11_puts, 0, [((-1000), 200)], [.inr (.inr (.inl [0])), .inr (.inr (.inl [519, 520, 521])), .inl (some 0, 0), .inl (none, 0)], [((0, 35), (none, 218))], [(1, ((-1000), 200), [], [], [((0, 35), (219, 219))])], [(0, 35, 1), (519, 218, 1), (520, 218, 1), (521, 218, 1)])
set_option maxRecDepth 20000 in
abbrev xx_X11_puts_218 : scX := (Tm, invM, lnX11, [], cc_X11_puts_218)
set_option maxRecDepth 20000 in
theorem hh_X11_puts_218 : scH Tm invM cc_X11_puts_218 := scCheck_ok (X := xx_X11_puts_218) (nodes := []) (fuel := 4000) ⟨lqX11, fa_nil⟩ dtX11_puts (by decide +kernel)
abbrev cc_X11_puts_219 : scC := (qX11_puts, 0, [((-1000), 200)], [.inr (.inr (.inl [0])), .inr (.inr (.inl [519, 520, 521])), .inl (some 0, 0), .inl (none, 0)], [((0, 35), (none, 219))], [(1, ((-1000), 200), [], [], [((0, 35), (220, 220))])], [(0, 35, 1), (519, 219, 1), (520, 219, 1), (521, 219, 1)])
set_option maxRecDepth 20000 in
abbrev xx_X11_puts_219 : scX := (Tm, invM, lnX11, [], cc_X11_puts_219)
set_option maxRecDepth 20000 in
theorem hh_X11_puts_219 : scH Tm invM cc_X11_puts_219 := scCheck_ok (X := xx_X11_puts_219) (nodes := []) (fuel := 4000) ⟨lqX11, fa_nil⟩ dtX11_puts (by decide +kernel)
abbrev cc_X11_puts_220 : scC := (qX11_puts, 0, [(0, 12)], [.inr (.inr (.inl [0])), .inr (.inr (.inl [519, 520, 521])), .inl (some 0, 0), .inl (none, 0)], [((0, 35), (none, 220))], [(1, (0, 12), [], [], [((0, 35), (221, 221))])], [(0, 35, 1), (519, 220, 1), (520, 220, 1), (521, 220, 1)])
set_option maxRecDepth 20000 in
abbrev xx_X11_puts_220 : scX := (Tm, invM, lnX11, [], cc_X11_puts_220)
set_option maxRecDepth 20000 in
theorem hh_X11_puts_220 : scH Tm invM cc_X11_puts_220 := scCheck_ok (X := xx_X11_puts_220) (nodes := []) (fuel := 4000) ⟨lqX11, fa_nil⟩ dtX11_puts (by decide +kernel)
abbrev cc_X11_puts_221 : scC := (qX11_puts, 0, [(0, 200)], [.inr (.inr (.inl [0])), .inr (.inr (.inl [519, 520, 521])), .inl (some 0, 0), .inl (none, 0)], [((0, 35), (none, 221))], [(1, (0, 200), [], [], [((0, 35), (222, 222))])], [(0, 35, 1), (519, 221, 1), (520, 221, 1), (521, 221, 1)])
set_option maxRecDepth 20000 in
abbrev xx_X11_puts_221 : scX := (Tm, invM, lnX11, [], cc_X11_puts_221)
set_option maxRecDepth 20000 in
theorem hh_X11_puts_221 : scH Tm invM cc_X11_puts_221 := scCheck_ok (X := xx_X11_puts_221) (nodes := []) (fuel := 4000) ⟨lqX11, fa_nil⟩ dtX11_puts (by decide +kernel)
abbrev cc_X11_puts_222 : scC := (qX11_puts, 0, [((-2147483648), 2147483647)], [.inr (.inr (.inl [0])), .inr (.inr (.inl [519, 520, 521])), .inl (some 0, 0), .inl (none, 0)], [((0, 35), (none, 222))], [(1, ((-2147483648), 2147483647), [], [], [((0, 35), (223, 223))])], [(0, 35, 1), (519, 222, 1), (520, 222, 1), (521, 222, 1)])
set_option maxRecDepth 20000 in
abbrev xx_X11_puts_222 : scX := (Tm, invM, lnX11, [], cc_X11_puts_222)
set_option maxRecDepth 20000 in
theorem hh_X11_puts_222 : scH Tm invM cc_X11_puts_222 := scCheck_ok (X := xx_X11_puts_222) (nodes := []) (fuel := 4000) ⟨lqX11, fa_nil⟩ dtX11_puts (by decide +kernel)
abbrev cc_X11_puts_223 : scC := (qX11_puts, 0, [((-2147483648), 2147483647)], [.inr (.inr (.inl [0])), .inr (.inr (.inl [519, 520, 521])), .inl (some 0, 0), .inl (none, 0)], [((0, 35), (none, 223))], [(1, ((-2147483648), 2147483647), [], [], [((0, 35), (224, 224))])], [(0, 35, 1), (519, 223, 1), (520, 223, 1), (521, 223, 1)])
set_option maxRecDepth 20000 in
abbrev xx_X11_puts_223 : scX := (Tm, invM, lnX11, [], cc_X11_puts_223)
set_option maxRecDepth 20000 in
theorem hh_X11_puts_223 : scH Tm invM cc_X11_puts_223 := scCheck_ok (X := xx_X11_puts_223) (nodes := []) (fuel := 4000) ⟨lqX11, fa_nil⟩ dtX11_puts (by decide +kernel)
abbrev cc_X11_puts_224 : scC := (qX11_puts, 0, [((-2147483648), 2147483647)], [.inr (.inr (.inl [0])), .inr (.inr (.inl [519, 520, 521])), .inl (some 0, 0), .inl (none, 0)], [((0, 35), (none, 224))], [(1, ((-2147483648), 2147483647), [], [], [((0, 35), (225, 225))])], [(0, 35, 1), (519, 224, 1), (520, 224, 1), (521, 224, 1)])
set_option maxRecDepth 20000 in
abbrev xx_X11_puts_224 : scX := (Tm, invM, lnX11, [], cc_X11_puts_224)
set_option maxRecDepth 20000 in
theorem hh_X11_puts_224 : scH Tm invM cc_X11_puts_224 := scCheck_ok (X := xx_X11_puts_224) (nodes := []) (fuel := 4000) ⟨lqX11, fa_nil⟩ dtX11_puts (by decide +kernel)
abbrev cc_X11_puts_225 : scC := (qX11_puts, 0, [((-2147483648), 2147483647)], [.inr (.inr (.inl [0])), .inr (.inr (.inl [519, 520, 521])), .inl (some 0, 0), .inl (none, 0)], [((0, 35), (none, 225))], [(1, ((-2147483648), 2147483647), [], [], [((0, 35), (226, 226))])], [(0, 35, 1), (519, 225, 1), (520, 225, 1), (521, 225, 1)])
set_option maxRecDepth 20000 in
abbrev xx_X11_puts_225 : scX := (Tm, invM, lnX11, [], cc_X11_puts_225)
set_option maxRecDepth 20000 in
theorem hh_X11_puts_225 : scH Tm invM cc_X11_puts_225 := scCheck_ok (X := xx_X11_puts_225) (nodes := []) (fuel := 4000) ⟨lqX11, fa_nil⟩ dtX11_puts (by decide +kernel)
abbrev cc_X11_puts_226 : scC := (qX11_puts, 0, [((-1000), 200)], [.inr (.inr (.inl [0])), .inr (.inr (.inl [519, 520, 521])), .inl (some 0, 0), .inl (none, 0)], [((0, 35), (none, 226))], [(1, ((-1000), 200), [], [], [((0, 35), (227, 227))])], [(0, 35, 1), (519, 226, 1), (520, 226, 1), (521, 226, 1)])
set_option maxRecDepth 20000 in
abbrev xx_X11_puts_226 : scX := (Tm, invM, lnX11, [], cc_X11_puts_226)
set_option maxRecDepth 20000 in
theorem hh_X11_puts_226 : scH Tm invM cc_X11_puts_226 := scCheck_ok (X := xx_X11_puts_226) (nodes := []) (fuel := 4000) ⟨lqX11, fa_nil⟩ dtX11_puts (by decide +kernel)
abbrev cc_X11_puts_227 : scC := (qX11_puts, 0, [((-1000), 200)], [.inr (.inr (.inl [0])), .inr (.inr (.inl [519, 520, 521])), .inl (some 0, 0), .inl (none, 0)], [((0, 35), (none, 227))], [(1, ((-1000), 200), [], [], [((0, 35), (228, 228))])], [(0, 35, 1), (519, 227, 1), (520, 227, 1), (521, 227, 1)])
set_option maxRecDepth 20000 in
abbrev xx_X11_puts_227 : scX := (Tm, invM, lnX11, [], cc_X11_puts_227)
set_option maxRecDepth 20000 in
theorem hh_X11_puts_227 : scH Tm invM cc_X11_puts_227 := scCheck_ok (X := xx_X11_puts_227) (nodes := []) (fuel := 4000) ⟨lqX11, fa_nil⟩ dtX11_puts (by decide +kernel)
abbrev cc_X11_puts_228 : scC := (qX11_puts, 0, [((-1000), 200)], [.inr (.inr (.inl [0])), .inr (.inr (.inl [519, 520, 521])), .inl (some 0, 0), .inl (none, 0)], [((0, 35), (none, 228))], [(1, ((-1000), 200), [], [], [((0, 35), (229, 229))])], [(0, 35, 1), (519, 228, 1), (520, 228, 1), (521, 228, 1)])
set_option maxRecDepth 20000 in
abbrev xx_X11_puts_228 : scX := (Tm, invM, lnX11, [], cc_X11_puts_228)
set_option maxRecDepth 20000 in
theorem hh_X11_puts_228 : scH Tm invM cc_X11_puts_228 := scCheck_ok (X := xx_X11_puts_228) (nodes := []) (fuel := 4000) ⟨lqX11, fa_nil⟩ dtX11_puts (by decide +kernel)
abbrev cc_X11_puts_229 : scC := (qX11_puts, 0, [((-1000), 200)], [.inr (.inr (.inl [0])), .inr (.inr (.inl [519, 520, 521])), .inl (some 0, 0), .inl (none, 0)], [((0, 35), (none, 229))], [(1, ((-1000), 200), [], [], [((0, 35), (230, 230))])], [(0, 35, 1), (519, 229, 1), (520, 229, 1), (521, 229, 1)])
set_option maxRecDepth 20000 in
abbrev xx_X11_puts_229 : scX := (Tm, invM, lnX11, [], cc_X11_puts_229)
set_option maxRecDepth 20000 in
theorem hh_X11_puts_229 : scH Tm invM cc_X11_puts_229 := scCheck_ok (X := xx_X11_puts_229) (nodes := []) (fuel := 4000) ⟨lqX11, fa_nil⟩ dtX11_puts (by decide +kernel)
abbrev cc_X11_puts_230 : scC := (qX11_puts, 0, [((-1000), 200)], [.inr (.inr (.inl [0])), .inr (.inr (.inl [519, 520, 521])), .inl (some 0, 0), .inl (none, 0)], [((0, 35), (none, 230))], [(1, ((-1000), 200), [], [], [((0, 35), (231, 231))])], [(0, 35, 1), (519, 230, 1), (520, 230, 1), (521, 230, 1)])
set_option maxRecDepth 20000 in
abbrev xx_X11_puts_230 : scX := (Tm, invM, lnX11, [], cc_X11_puts_230)
set_option maxRecDepth 20000 in
theorem hh_X11_puts_230 : scH Tm invM cc_X11_puts_230 := scCheck_ok (X := xx_X11_puts_230) (nodes := []) (fuel := 4000) ⟨lqX11, fa_nil⟩ dtX11_puts (by decide +kernel)
abbrev cc_X11_puts_231 : scC := (qX11_puts, 0, [((-1000), 200)], [.inr (.inr (.inl [0])), .inr (.inr (.inl [519, 520, 521])), .inl (some 0, 0), .inl (none, 0)], [((0, 35), (none, 231))], [(1, ((-1000), 200), [], [], [((0, 35), (232, 232))])], [(0, 35, 1), (519, 231, 1), (520, 231, 1), (521, 231, 1)])
set_option maxRecDepth 20000 in
abbrev xx_X11_puts_231 : scX := (Tm, invM, lnX11, [], cc_X11_puts_231)
set_option maxRecDepth 20000 in
theorem hh_X11_puts_231 : scH Tm invM cc_X11_puts_231 := scCheck_ok (X := xx_X11_puts_231) (nodes := []) (fuel := 4000) ⟨lqX11, fa_nil⟩ dtX11_puts (by decide +kernel)
abbrev cc_X11_puts_232 : scC := (qX11_puts, 0, [((-1000), 200)], [.inr (.inr (.inl [0])), .inr (.inr (.inl [519, 520, 521])), .inl (some 0, 0), .inl (none, 0)], [((0, 35), (none, 232))], [(1, ((-1000), 200), [], [], [((0, 35), (233, 233))])], [(0, 35, 1), (519, 232, 1), (520, 232, 1), (521, 232, 1)])
set_option maxRecDepth 20000 in
abbrev xx_X11_puts_232 : scX := (Tm, invM, lnX11, [], cc_X11_puts_232)
set_option maxRecDepth 20000 in
theorem hh_X11_puts_232 : scH Tm invM cc_X11_puts_232 := scCheck_ok (X := xx_X11_puts_232) (nodes := []) (fuel := 4000) ⟨lqX11, fa_nil⟩ dtX11_puts (by decide +kernel)
abbrev cc_X11_puts_233 : scC := (qX11_puts, 0, [((-1000), 200)], [.inr (.inr (.inl [0])), .inr (.inr (.inl [519, 520, 521])), .inl (some 0, 0), .inl (none, 0)], [((0, 35), (none, 233))], [(1, ((-1000), 200), [], [], [((0, 35), (234, 234))])], [(0, 35, 1), (519, 233, 1), (520, 233, 1), (521, 233, 1)])
set_option maxRecDepth 20000 in
abbrev xx_X11_puts_233 : scX := (Tm, invM, lnX11, [], cc_X11_puts_233)
set_option maxRecDepth 20000 in
theorem hh_X11_puts_233 : scH Tm invM cc_X11_puts_233 := scCheck_ok (X := xx_X11_puts_233) (nodes := []) (fuel := 4000) ⟨lqX11, fa_nil⟩ dtX11_puts (by decide +kernel)
abbrev cc_X11_puts_234 : scC := (qX11_puts, 0, [(0, 12)], [.inr (.inr (.inl [0])), .inr (.inr (.inl [519, 520, 521])), .inl (some 0, 0), .inl (none, 0)], [((0, 35), (none, 234))], [(1, (0, 12), [], [], [((0, 35), (235, 235))])], [(0, 35, 1), (519, 234, 1), (520, 234, 1), (521, 234, 1)])
set_option maxRecDepth 20000 in
abbrev xx_X11_puts_234 : scX := (Tm, invM, lnX11, [], cc_X11_puts_234)
set_option maxRecDepth 20000 in
theorem hh_X11_puts_234 : scH Tm invM cc_X11_puts_234 := scCheck_ok (X := xx_X11_puts_234) (nodes := []) (fuel := 4000) ⟨lqX11, fa_nil⟩ dtX11_puts (by decide +kernel)
abbrev cc_X11_puts_235 : scC := (qX11_puts, 0, [(0, 200)], [.inr (.inr (.inl [0])), .inr (.inr (.inl [519, 520, 521])), .inl (some 0, 0), .inl (none, 0)], [((0, 35), (none, 235))], [(1, (0, 200), [], [], [((0, 35), (236, 236))])], [(0, 35, 1), (519, 235, 1), (520, 235, 1), (521, 235, 1)])
set_option maxRecDepth 20000 in
abbrev xx_X11_puts_235 : scX := (Tm, invM, lnX11, [], cc_X11_puts_235)
set_option maxRecDepth 20000 in
theorem hh_X11_puts_235 : scH Tm invM cc_X11_puts_235 := scCheck_ok (X := xx_X11_puts_235) (nodes := []) (fuel := 4000) ⟨lqX11, fa_nil⟩ dtX11_puts (by decide +kernel)
abbrev cc_X11_puts_236 : scC := (qX11_puts, 0, [((-2147483648), 2147483647)], [.inr (.inr (.inl [0])), .inr (.inr (.inl [519, 520, 521])), .inl (some 0, 0), .inl (none, 0)], [((0, 35), (none, 236))], [(1, ((-2147483648), 2147483647), [], [], [((0, 35), (237, 237))])], [(0, 35, 1), (519, 236, 1), (520, 236, 1), (521, 236, 1)])
set_option maxRecDepth 20000 in
abbrev xx_X11_puts_236 : scX := (Tm, invM, lnX11, [], cc_X11_puts_236)
set_option maxRecDepth 20000 in
theorem hh_X11_puts_236 : scH Tm invM cc_X11_puts_236 := scCheck_ok (X := xx_X11_puts_236) (nodes := []) (fuel := 4000) ⟨lqX11, fa_nil⟩ dtX11_puts (by decide +kernel)
abbrev cc_X11_puts_237 : scC := (qX11_puts, 0, [((-2147483648), 2147483647)], [.inr (.inr (.inl [0])), .inr (.inr (.inl [519, 520, 521])), .inl (some 0, 0), .inl (none, 0)], [((0, 35), (none, 237))], [(1, ((-2147483648), 2147483647), [], [], [((0, 35), (238, 238))])], [(0, 35, 1), (519, 237, 1), (520, 237, 1), (521, 237, 1)])
set_option maxRecDepth 20000 in
abbrev xx_X11_puts_237 : scX := (Tm, invM, lnX11, [], cc_X11_puts_237)
set_option maxRecDepth 20000 in
theorem hh_X11_puts_237 : scH Tm invM cc_X11_puts_237 := scCheck_ok (X := xx_X11_puts_237) (nodes := []) (fuel := 4000) ⟨lqX11, fa_nil⟩ dtX11_puts (by decide +kernel)
abbrev cc_X11_puts_238 : scC := (qX11_puts, 0, [((-2147483648), 2147483647)], [.inr (.inr (.inl [0])), .inr (.inr (.inl [519, 520, 521])), .inl (some 0, 0), .inl (none, 0)], [((0, 35), (none, 238))], [(1, ((-2147483648), 2147483647), [], [], [((0, 35), (239, 239))])], [(0, 35, 1), (519, 238, 1), (520, 238, 1), (521, 238, 1)])
set_option maxRecDepth 20000 in
abbrev xx_X11_puts_238 : scX := (Tm, invM, lnX11, [], cc_X11_puts_238)
set_option maxRecDepth 20000 in
theorem hh_X11_puts_238 : scH Tm invM cc_X11_puts_238 := scCheck_ok (X := xx_X11_puts_238) (nodes := []) (fuel := 4000) ⟨lqX11, fa_nil⟩ dtX11_puts (by decide +kernel)
abbrev cc_X11_putsAll_0 : scC := (qX11_putsAll, 1, [(0, 0)], [.inr (.inr (.inl [0])), .inr (.inr (.inl [519, 520, 521])), .inl (some 0, 0)], [], [(0, (0, 0), [], [], [])], [(0, 32, 1), (0, 35, 1), (7, 0, 14), (503, 0, 14), (504, 0, 14), (505, 0, 14), (506, 0, 14), (507, 0, 14), (508, 0, 14), (509, 0, 14), (510, 0, 14), (511, 0, 14), (512, 0, 14), (513, 0, 14), (514, 0, 14), (515, 0, 14), (516, 0, 14), (517, 0, 14), (518, 0, 14), (519, 0, 239), (520, 0, 239), (521, 0, 239)])
set_option maxRecDepth 20000 in
abbrev xx_X11_putsAll_0 : scX := (Tm, invM, lnX11, [(439, 0, 11, cc_X11_puts_10), (439, 0, 11, cc_X11_puts_24), (439, 0, 11, cc_X11_puts_38), (439, 0, 11, cc_X11_puts_52), (439, 0, 11, cc_X11_puts_66), (439, 0, 11, cc_X11_puts_80), (439, 0, 11, cc_X11_puts_94), (439, 0, 11, cc_X11_puts_108), (439, 0, 11, cc_X11_puts_122), (439, 0, 11, cc_X11_puts_136), (439, 0, 11, cc_X11_puts_150), (439, 0, 11, cc_X11_puts_164), (439, 0, 11, cc_X11_puts_178), (439, 0, 11, cc_X11_puts_192), (439, 0, 11, cc_X11_puts_206), (439, 0, 11, cc_X11_puts_220), (439, 0, 11, cc_X11_puts_234), (439, 0, 11, cc_X11_puts_0), (439, 0, 11, cc_X11_puts_11), (439, 0, 11, cc_X11_puts_25), (439, 0, 11, cc_X11_puts_39), (439, 0, 11, cc_X11_puts_53), (439, 0, 11, cc_X11_puts_67), (439, 0, 11, cc_X11_puts_81), (439, 0, 11, cc_X11_puts_95), (439, 0, 11, cc_X11_puts_109), (439, 0, 11, cc_X11_puts_123), (439, 0, 11, cc_X11_puts_137), (439, 0, 11, cc_X11_puts_151), (439, 0, 11, cc_X11_puts_165), (439, 0, 11, cc_X11_puts_179), (439, 0, 11, cc_X11_puts_193), (439, 0, 11, cc_X11_puts_207), (439, 0, 11, cc_X11_puts_221), (439, 0, 11, cc_X11_puts_235), (439, 0, 11, cc_X11_puts_2), (439, 0, 11, cc_X11_puts_3), (439, 0, 11, cc_X11_puts_4), (439, 0, 11, cc_X11_puts_5), (439, 0, 11, cc_X11_puts_6), (439, 0, 11, cc_X11_puts_7), (439, 0, 11, cc_X11_puts_8), (439, 0, 11, cc_X11_puts_9), (439, 0, 11, cc_X11_puts_16), (439, 0, 11, cc_X11_puts_17), (439, 0, 11, cc_X11_puts_18), (439, 0, 11, cc_X11_puts_19), (439, 0, 11, cc_X11_puts_20), (439, 0, 11, cc_X11_puts_21), (439, 0, 11, cc_X11_puts_22), (439, 0, 11, cc_X11_puts_23), (439, 0, 11, cc_X11_puts_30), (439, 0, 11, cc_X11_puts_31), (439, 0, 11, cc_X11_puts_32), (439, 0, 11, cc_X11_puts_33), (439, 0, 11, cc_X11_puts_34), (439, 0, 11, cc_X11_puts_35), (439, 0, 11, cc_X11_puts_36), (439, 0, 11, cc_X11_puts_37), (439, 0, 11, cc_X11_puts_44), (439, 0, 11, cc_X11_puts_45), (439, 0, 11, cc_X11_puts_46), (439, 0, 11, cc_X11_puts_47), (439, 0, 11, cc_X11_puts_48), (439, 0, 11, cc_X11_puts_49), (439, 0, 11, cc_X11_puts_50), (439, 0, 11, cc_X11_puts_51), (439, 0, 11, cc_X11_puts_58), (439, 0, 11, cc_X11_puts_59), (439, 0, 11, cc_X11_puts_60), (439, 0, 11, cc_X11_puts_61), (439, 0, 11, cc_X11_puts_62), (439, 0, 11, cc_X11_puts_63), (439, 0, 11, cc_X11_puts_64), (439, 0, 11, cc_X11_puts_65), (439, 0, 11, cc_X11_puts_72), (439, 0, 11, cc_X11_puts_73), (439, 0, 11, cc_X11_puts_74), (439, 0, 11, cc_X11_puts_75), (439, 0, 11, cc_X11_puts_76), (439, 0, 11, cc_X11_puts_77), (439, 0, 11, cc_X11_puts_78), (439, 0, 11, cc_X11_puts_79), (439, 0, 11, cc_X11_puts_86), (439, 0, 11, cc_X11_puts_87), (439, 0, 11, cc_X11_puts_88), (439, 0, 11, cc_X11_puts_89), (439, 0, 11, cc_X11_puts_90), (439, 0, 11, cc_X11_puts_91), (439, 0, 11, cc_X11_puts_92), (439, 0, 11, cc_X11_puts_93), (439, 0, 11, cc_X11_puts_100), (439, 0, 11, cc_X11_puts_101), (439, 0, 11, cc_X11_puts_102), (439, 0, 11, cc_X11_puts_103), (439, 0, 11, cc_X11_puts_104), (439, 0, 11, cc_X11_puts_105), (439, 0, 11, cc_X11_puts_106), (439, 0, 11, cc_X11_puts_107), (439, 0, 11, cc_X11_puts_114), (439, 0, 11, cc_X11_puts_115), (439, 0, 11, cc_X11_puts_116), (439, 0, 11, cc_X11_puts_117), (439, 0, 11, cc_X11_puts_118), (439, 0, 11, cc_X11_puts_119), (439, 0, 11, cc_X11_puts_120), (439, 0, 11, cc_X11_puts_121), (439, 0, 11, cc_X11_puts_128), (439, 0, 11, cc_X11_puts_129), (439, 0, 11, cc_X11_puts_130), (439, 0, 11, cc_X11_puts_131), (439, 0, 11, cc_X11_puts_132), (439, 0, 11, cc_X11_puts_133), (439, 0, 11, cc_X11_puts_134), (439, 0, 11, cc_X11_puts_135), (439, 0, 11, cc_X11_puts_142), (439, 0, 11, cc_X11_puts_143), (439, 0, 11, cc_X11_puts_144), (439, 0, 11, cc_X11_puts_145), (439, 0, 11, cc_X11_puts_146), (439, 0, 11, cc_X11_puts_147), (439, 0, 11, cc_X11_puts_148), (439, 0, 11, cc_X11_puts_149), (439, 0, 11, cc_X11_puts_156), (439, 0, 11, cc_X11_puts_157), (439, 0, 11, cc_X11_puts_158), (439, 0, 11, cc_X11_puts_159), (439, 0, 11, cc_X11_puts_160), (439, 0, 11, cc_X11_puts_161), (439, 0, 11, cc_X11_puts_162), (439, 0, 11, cc_X11_puts_163), (439, 0, 11, cc_X11_puts_170), (439, 0, 11, cc_X11_puts_171), (439, 0, 11, cc_X11_puts_172), (439, 0, 11, cc_X11_puts_173), (439, 0, 11, cc_X11_puts_174), (439, 0, 11, cc_X11_puts_175), (439, 0, 11, cc_X11_puts_176), (439, 0, 11, cc_X11_puts_177), (439, 0, 11, cc_X11_puts_184), (439, 0, 11, cc_X11_puts_185), (439, 0, 11, cc_X11_puts_186), (439, 0, 11, cc_X11_puts_187), (439, 0, 11, cc_X11_puts_188), (439, 0, 11, cc_X11_puts_189), (439, 0, 11, cc_X11_puts_190), (439, 0, 11, cc_X11_puts_191), (439, 0, 11, cc_X11_puts_198), (439, 0, 11, cc_X11_puts_199), (439, 0, 11, cc_X11_puts_200), (439, 0, 11, cc_X11_puts_201), (439, 0, 11, cc_X11_puts_202), (439, 0, 11, cc_X11_puts_203), (439, 0, 11, cc_X11_puts_204), (439, 0, 11, cc_X11_puts_205), (439, 0, 11, cc_X11_puts_212), (439, 0, 11, cc_X11_puts_213), (439, 0, 11, cc_X11_puts_214), (439, 0, 11, cc_X11_puts_215), (439, 0, 11, cc_X11_puts_216), (439, 0, 11, cc_X11_puts_217), (439, 0, 11, cc_X11_puts_218), (439, 0, 11, cc_X11_puts_219), (439, 0, 11, cc_X11_puts_226), (439, 0, 11, cc_X11_puts_227), (439, 0, 11, cc_X11_puts_228), (439, 0, 11, cc_X11_puts_229), (439, 0, 11, cc_X11_puts_230), (439, 0, 11, cc_X11_puts_231), (439, 0, 11, cc_X11_puts_232), (439, 0, 11, cc_X11_puts_233), (439, 0, 11, cc_X11_puts_1), (439, 0, 11, cc_X11_puts_12), (439, 0, 11, cc_X11_puts_13), (439, 0, 11, cc_X11_puts_14), (439, 0, 11, cc_X11_puts_15), (439, 0, 11, cc_X11_puts_26), (439, 0, 11, cc_X11_puts_27), (439, 0, 11, cc_X11_puts_28), (439, 0, 11, cc_X11_puts_29), (439, 0, 11, cc_X11_puts_40), (439, 0, 11, cc_X11_puts_41), (439, 0, 11, cc_X11_puts_42), (439, 0, 11, cc_X11_puts_43), (439, 0, 11, cc_X11_puts_54), (439, 0, 11, cc_X11_puts_55), (439, 0, 11, cc_X11_puts_56), (439, 0, 11, cc_X11_puts_57), (439, 0, 11, cc_X11_puts_68), (439, 0, 11, cc_X11_puts_69), (439, 0, 11, cc_X11_puts_70), (439, 0, 11, cc_X11_puts_71), (439, 0, 11, cc_X11_puts_82), (439, 0, 11, cc_X11_puts_83), (439, 0, 11, cc_X11_puts_84), (439, 0, 11, cc_X11_puts_85), (439, 0, 11, cc_X11_puts_96), (439, 0, 11, cc_X11_puts_97), (439, 0, 11, cc_X11_puts_98), (439, 0, 11, cc_X11_puts_99), (439, 0, 11, cc_X11_puts_110), (439, 0, 11, cc_X11_puts_111), (439, 0, 11, cc_X11_puts_112), (439, 0, 11, cc_X11_puts_113), (439, 0, 11, cc_X11_puts_124), (439, 0, 11, cc_X11_puts_125), (439, 0, 11, cc_X11_puts_126), (439, 0, 11, cc_X11_puts_127), (439, 0, 11, cc_X11_puts_138), (439, 0, 11, cc_X11_puts_139), (439, 0, 11, cc_X11_puts_140), (439, 0, 11, cc_X11_puts_141), (439, 0, 11, cc_X11_puts_152), (439, 0, 11, cc_X11_puts_153), (439, 0, 11, cc_X11_puts_154), (439, 0, 11, cc_X11_puts_155), (439, 0, 11, cc_X11_puts_166), (439, 0, 11, cc_X11_puts_167), (439, 0, 11, cc_X11_puts_168), (439, 0, 11, cc_X11_puts_169), (439, 0, 11, cc_X11_puts_180), (439, 0, 11, cc_X11_puts_181), (439, 0, 11, cc_X11_puts_182), (439, 0, 11, cc_X11_puts_183), (439, 0, 11, cc_X11_puts_194), (439, 0, 11, cc_X11_puts_195), (439, 0, 11, cc_X11_puts_196), (439, 0, 11, cc_X11_puts_197), (439, 0, 11, cc_X11_puts_208), (439, 0, 11, cc_X11_puts_209), (439, 0, 11, cc_X11_puts_210), (439, 0, 11, cc_X11_puts_211), (439, 0, 11, cc_X11_puts_222), (439, 0, 11, cc_X11_puts_223), (439, 0, 11, cc_X11_puts_224), (439, 0, 11, cc_X11_puts_225), (439, 0, 11, cc_X11_puts_236), (439, 0, 11, cc_X11_puts_237), (439, 0, 11, cc_X11_puts_238)], cc_X11_putsAll_0)
set_option maxRecDepth 20000 in
theorem hh_X11_putsAll_0 : scH Tm invM cc_X11_putsAll_0 := scCheck_ok (X := xx_X11_putsAll_0) (nodes := []) (fuel := 4000) ⟨lqX11, fa_cons (⟨⟨3, _, pcv_X11_439, rfl⟩, hh_X11_puts_10⟩) (fa_cons (⟨⟨3, _, pcv_X11_439, rfl⟩, hh_X11_puts_24⟩) (fa_cons (⟨⟨3, _, pcv_X11_439, rfl⟩, hh_X11_puts_38⟩) (fa_cons (⟨⟨3, _, pcv_X11_439, rfl⟩, hh_X11_puts_52⟩) (fa_cons (⟨⟨3, _, pcv_X11_439, rfl⟩, hh_X11_puts_66⟩) (fa_cons (⟨⟨3, _, pcv_X11_439, rfl⟩, hh_X11_puts_80⟩) (fa_cons (⟨⟨3, _, pcv_X11_439, rfl⟩, hh_X11_puts_94⟩) (fa_cons (⟨⟨3, _, pcv_X11_439, rfl⟩, hh_X11_puts_108⟩) (fa_cons (⟨⟨3, _, pcv_X11_439, rfl⟩, hh_X11_puts_122⟩) (fa_cons (⟨⟨3, _, pcv_X11_439, rfl⟩, hh_X11_puts_136⟩) (fa_cons (⟨⟨3, _, pcv_X11_439, rfl⟩, hh_X11_puts_150⟩) (fa_cons (⟨⟨3, _, pcv_X11_439, rfl⟩, hh_X11_puts_164⟩) (fa_cons (⟨⟨3, _, pcv_X11_439, rfl⟩, hh_X11_puts_178⟩) (fa_cons (⟨⟨3, _, pcv_X11_439, rfl⟩, hh_X11_puts_192⟩) (fa_cons (⟨⟨3, _, pcv_X11_439, rfl⟩, hh_X11_puts_206⟩) (fa_cons (⟨⟨3, _, pcv_X11_439, rfl⟩, hh_X11_puts_220⟩) (fa_cons (⟨⟨3, _, pcv_X11_439, rfl⟩, hh_X11_puts_234⟩) (fa_cons (⟨⟨3, _, pcv_X11_439, rfl⟩, hh_X11_puts_0⟩) (fa_cons (⟨⟨3, _, pcv_X11_439, rfl⟩, hh_X11_puts_11⟩) (fa_cons (⟨⟨3, _, pcv_X11_439, rfl⟩, hh_X11_puts_25⟩) (fa_cons (⟨⟨3, _, pcv_X11_439, rfl⟩, hh_X11_puts_39⟩) (fa_cons (⟨⟨3, _, pcv_X11_439, rfl⟩, hh_X11_puts_53⟩) (fa_cons (⟨⟨3, _, pcv_X11_439, rfl⟩, hh_X11_puts_67⟩) (fa_cons (⟨⟨3, _, pcv_X11_439, rfl⟩, hh_X11_puts_81⟩) (fa_cons (⟨⟨3, _, pcv_X11_439, rfl⟩, hh_X11_puts_95⟩) (fa_cons (⟨⟨3, _, pcv_X11_439, rfl⟩, hh_X11_puts_109⟩) (fa_cons (⟨⟨3, _, pcv_X11_439, rfl⟩, hh_X11_puts_123⟩) (fa_cons (⟨⟨3, _, pcv_X11_439, rfl⟩, hh_X11_puts_137⟩) (fa_cons (⟨⟨3, _, pcv_X11_439, rfl⟩, hh_X11_puts_151⟩) (fa_cons (⟨⟨3, _, pcv_X11_439, rfl⟩, hh_X11_puts_165⟩) (fa_cons (⟨⟨3, _, pcv_X11_439, rfl⟩, hh_X11_puts_179⟩) (fa_cons (⟨⟨3, _, pcv_X11_439, rfl⟩, hh_X11_puts_193⟩) (fa_cons (⟨⟨3, _, pcv_X11_439, rfl⟩, hh_X11_puts_207⟩) (fa_cons (⟨⟨3, _, pcv_X11_439, rfl⟩, hh_X11_puts_221⟩) (fa_cons (⟨⟨3, _, pcv_X11_439, rfl⟩, hh_X11_puts_235⟩) (fa_cons (⟨⟨3, _, pcv_X11_439, rfl⟩, hh_X11_puts_2⟩) (fa_cons (⟨⟨3, _, pcv_X11_439, rfl⟩, hh_X11_puts_3⟩) (fa_cons (⟨⟨3, _, pcv_X11_439, rfl⟩, hh_X11_puts_4⟩) (fa_cons (⟨⟨3, _, pcv_X11_439, rfl⟩, hh_X11_puts_5⟩) (fa_cons (⟨⟨3, _, pcv_X11_439, rfl⟩, hh_X11_puts_6⟩) (fa_cons (⟨⟨3, _, pcv_X11_439, rfl⟩, hh_X11_puts_7⟩) (fa_cons (⟨⟨3, _, pcv_X11_439, rfl⟩, hh_X11_puts_8⟩) (fa_cons (⟨⟨3, _, pcv_X11_439, rfl⟩, hh_X11_puts_9⟩) (fa_cons (⟨⟨3, _, pcv_X11_439, rfl⟩, hh_X11_puts_16⟩) (fa_cons (⟨⟨3, _, pcv_X11_439, rfl⟩, hh_X11_puts_17⟩) (fa_cons (⟨⟨3, _, pcv_X11_439, rfl⟩, hh_X11_puts_18⟩) (fa_cons (⟨⟨3, _, pcv_X11_439, rfl⟩, hh_X11_puts_19⟩) (fa_cons (⟨⟨3, _, pcv_X11_439, rfl⟩, hh_X11_puts_20⟩) (fa_cons (⟨⟨3, _, pcv_X11_439, rfl⟩, hh_X11_puts_21⟩) (fa_cons (⟨⟨3, _, pcv_X11_439, rfl⟩, hh_X11_puts_22⟩) (fa_cons (⟨⟨3, _, pcv_X11_439, rfl⟩, hh_X11_puts_23⟩) (fa_cons (⟨⟨3, _, pcv_X11_439, rfl⟩, hh_X11_puts_30⟩) (fa_cons (⟨⟨3, _, pcv_X11_439, rfl⟩, hh_X11_puts_31⟩) (fa_cons (⟨⟨3, _, pcv_X11_439, rfl⟩, hh_X11_puts_32⟩) (fa_cons (⟨⟨3, _, pcv_X11_439, rfl⟩, hh_X11_puts_33⟩) (fa_cons (⟨⟨3, _, pcv_X11_439, rfl⟩, hh_X11_puts_34⟩) (fa_cons (⟨⟨3, _, pcv_X11_439, rfl⟩, hh_X11_puts_35⟩) (fa_cons (⟨⟨3, _, pcv_X11_439, rfl⟩, hh_X11_puts_36⟩) (fa_cons (⟨⟨3, _, pcv_X11_439, rfl⟩, hh_X11_puts_37⟩) (fa_cons (⟨⟨3, _, pcv_X11_439, rfl⟩, hh_X11_puts_44⟩) (fa_cons (⟨⟨3, _, pcv_X11_439, rfl⟩, hh_X11_puts_45⟩) (fa_cons (⟨⟨3, _, pcv_X11_439, rfl⟩, hh_X11_puts_46⟩) (fa_cons (⟨⟨3, _, pcv_X11_439, rfl⟩, hh_X11_puts_47⟩) (fa_cons (⟨⟨3, _, pcv_X11_439, rfl⟩, hh_X11_puts_48⟩) (fa_cons (⟨⟨3, _, pcv_X11_439, rfl⟩, hh_X11_puts_49⟩) (fa_cons (⟨⟨3, _, pcv_X11_439, rfl⟩, hh_X11_puts_50⟩) (fa_cons (⟨⟨3, _, pcv_X11_439, rfl⟩, hh_X11_puts_51⟩) (fa_cons (⟨⟨3, _, pcv_X11_439, rfl⟩, hh_X11_puts_58⟩) (fa_cons (⟨⟨3, _, pcv_X11_439, rfl⟩, hh_X11_puts_59⟩) (fa_cons (⟨⟨3, _, pcv_X11_439, rfl⟩, hh_X11_puts_60⟩) (fa_cons (⟨⟨3, _, pcv_X11_439, rfl⟩, hh_X11_puts_61⟩) (fa_cons (⟨⟨3, _, pcv_X11_439, rfl⟩, hh_X11_puts_62⟩) (fa_cons (⟨⟨3, _, pcv_X11_439, rfl⟩, hh_X11_puts_63⟩) (fa_cons (⟨⟨3, _, pcv_X11_439, rfl⟩, hh_X11_puts_64⟩) (fa_cons (⟨⟨3, _, pcv_X11_439, rfl⟩, hh_X11_puts_65⟩) (fa_cons (⟨⟨3, _, pcv_X11_439, rfl⟩, hh_X11_puts_72⟩) (fa_cons (⟨⟨3, _, pcv_X11_439, rfl⟩, hh_X11_puts_73⟩) (fa_cons (⟨⟨3, _, pcv_X11_439, rfl⟩, hh_X11_puts_74⟩) (fa_cons (⟨⟨3, _, pcv_X11_439, rfl⟩, hh_X11_puts_75⟩) (fa_cons (⟨⟨3, _, pcv_X11_439, rfl⟩, hh_X11_puts_76⟩) (fa_cons (⟨⟨3, _, pcv_X11_439, rfl⟩, hh_X11_puts_77⟩) (fa_cons (⟨⟨3, _, pcv_X11_439, rfl⟩, hh_X11_puts_78⟩) (fa_cons (⟨⟨3, _, pcv_X11_439, rfl⟩, hh_X11_puts_79⟩) (fa_cons (⟨⟨3, _, pcv_X11_439, rfl⟩, hh_X11_puts_86⟩) (fa_cons (⟨⟨3, _, pcv_X11_439, rfl⟩, hh_X11_puts_87⟩) (fa_cons (⟨⟨3, _, pcv_X11_439, rfl⟩, hh_X11_puts_88⟩) (fa_cons (⟨⟨3, _, pcv_X11_439, rfl⟩, hh_X11_puts_89⟩) (fa_cons (⟨⟨3, _, pcv_X11_439, rfl⟩, hh_X11_puts_90⟩) (fa_cons (⟨⟨3, _, pcv_X11_439, rfl⟩, hh_X11_puts_91⟩) (fa_cons (⟨⟨3, _, pcv_X11_439, rfl⟩, hh_X11_puts_92⟩) (fa_cons (⟨⟨3, _, pcv_X11_439, rfl⟩, hh_X11_puts_93⟩) (fa_cons (⟨⟨3, _, pcv_X11_439, rfl⟩, hh_X11_puts_100⟩) (fa_cons (⟨⟨3, _, pcv_X11_439, rfl⟩, hh_X11_puts_101⟩) (fa_cons (⟨⟨3, _, pcv_X11_439, rfl⟩, hh_X11_puts_102⟩) (fa_cons (⟨⟨3, _, pcv_X11_439, rfl⟩, hh_X11_puts_103⟩) (fa_cons (⟨⟨3, _, pcv_X11_439, rfl⟩, hh_X11_puts_104⟩) (fa_cons (⟨⟨3, _, pcv_X11_439, rfl⟩, hh_X11_puts_105⟩) (fa_cons (⟨⟨3, _, pcv_X11_439, rfl⟩, hh_X11_puts_106⟩) (fa_cons (⟨⟨3, _, pcv_X11_439, rfl⟩, hh_X11_puts_107⟩) (fa_cons (⟨⟨3, _, pcv_X11_439, rfl⟩, hh_X11_puts_114⟩) (fa_cons (⟨⟨3, _, pcv_X11_439, rfl⟩, hh_X11_puts_115⟩) (fa_cons (⟨⟨3, _, pcv_X11_439, rfl⟩, hh_X11_puts_116⟩) (fa_cons (⟨⟨3, _, pcv_X11_439, rfl⟩, hh_X11_puts_117⟩) (fa_cons (⟨⟨3, _, pcv_X11_439, rfl⟩, hh_X11_puts_118⟩) (fa_cons (⟨⟨3, _, pcv_X11_439, rfl⟩, hh_X11_puts_119⟩) (fa_cons (⟨⟨3, _, pcv_X11_439, rfl⟩, hh_X11_puts_120⟩) (fa_cons (⟨⟨3, _, pcv_X11_439, rfl⟩, hh_X11_puts_121⟩) (fa_cons (⟨⟨3, _, pcv_X11_439, rfl⟩, hh_X11_puts_128⟩) (fa_cons (⟨⟨3, _, pcv_X11_439, rfl⟩, hh_X11_puts_129⟩) (fa_cons (⟨⟨3, _, pcv_X11_439, rfl⟩, hh_X11_puts_130⟩) (fa_cons (⟨⟨3, _, pcv_X11_439, rfl⟩, hh_X11_puts_131⟩) (fa_cons (⟨⟨3, _, pcv_X11_439, rfl⟩, hh_X11_puts_132⟩) (fa_cons (⟨⟨3, _, pcv_X11_439, rfl⟩, hh_X11_puts_133⟩) (fa_cons (⟨⟨3, _, pcv_X11_439, rfl⟩, hh_X11_puts_134⟩) (fa_cons (⟨⟨3, _, pcv_X11_439, rfl⟩, hh_X11_puts_135⟩) (fa_cons (⟨⟨3, _, pcv_X11_439, rfl⟩, hh_X11_puts_142⟩) (fa_cons (⟨⟨3, _, pcv_X11_439, rfl⟩, hh_X11_puts_143⟩) (fa_cons (⟨⟨3, _, pcv_X11_439, rfl⟩, hh_X11_puts_144⟩) (fa_cons (⟨⟨3, _, pcv_X11_439, rfl⟩, hh_X11_puts_145⟩) (fa_cons (⟨⟨3, _, pcv_X11_439, rfl⟩, hh_X11_puts_146⟩) (fa_cons (⟨⟨3, _, pcv_X11_439, rfl⟩, hh_X11_puts_147⟩) (fa_cons (⟨⟨3, _, pcv_X11_439, rfl⟩, hh_X11_puts_148⟩) (fa_cons (⟨⟨3, _, pcv_X11_439, rfl⟩, hh_X11_puts_149⟩) (fa_cons (⟨⟨3, _, pcv_X11_439, rfl⟩, hh_X11_puts_156⟩) (fa_cons (⟨⟨3, _, pcv_X11_439, rfl⟩, hh_X11_puts_157⟩) (fa_cons (⟨⟨3, _, pcv_X11_439, rfl⟩, hh_X11_puts_158⟩) (fa_cons (⟨⟨3, _, pcv_X11_439, rfl⟩, hh_X11_puts_159⟩) (fa_cons (⟨⟨3, _, pcv_X11_439, rfl⟩, hh_X11_puts_160⟩) (fa_cons (⟨⟨3, _, pcv_X11_439, rfl⟩, hh_X11_puts_161⟩) (fa_cons (⟨⟨3, _, pcv_X11_439, rfl⟩, hh_X11_puts_162⟩) (fa_cons (⟨⟨3, _, pcv_X11_439, rfl⟩, hh_X11_puts_163⟩) (fa_cons (⟨⟨3, _, pcv_X11_439, rfl⟩, hh_X11_puts_170⟩) (fa_cons (⟨⟨3, _, pcv_X11_439, rfl⟩, hh_X11_puts_171⟩) (fa_cons (⟨⟨3, _, pcv_X11_439, rfl⟩, hh_X11_puts_172⟩) (fa_cons (⟨⟨3, _, pcv_X11_439, rfl⟩, hh_X11_puts_173⟩) (fa_cons (⟨⟨3, _, pcv_X11_439, rfl⟩, hh_X11_puts_174⟩) (fa_cons (⟨⟨3, _, pcv_X11_439, rfl⟩, hh_X11_puts_175⟩) (fa_cons (⟨⟨3, _, pcv_X11_439, rfl⟩, hh_X11_puts_176⟩) (fa_cons (⟨⟨3, _, pcv_X11_439, rfl⟩, hh_X11_puts_177⟩) (fa_cons (⟨⟨3, _, pcv_X11_439, rfl⟩, hh_X11_puts_184⟩) (fa_cons (⟨⟨3, _, pcv_X11_439, rfl⟩, hh_X11_puts_185⟩) (fa_cons (⟨⟨3, _, pcv_X11_439, rfl⟩, hh_X11_puts_186⟩) (fa_cons (⟨⟨3, _, pcv_X11_439, rfl⟩, hh_X11_puts_187⟩) (fa_cons (⟨⟨3, _, pcv_X11_439, rfl⟩, hh_X11_puts_188⟩) (fa_cons (⟨⟨3, _, pcv_X11_439, rfl⟩, hh_X11_puts_189⟩) (fa_cons (⟨⟨3, _, pcv_X11_439, rfl⟩, hh_X11_puts_190⟩) (fa_cons (⟨⟨3, _, pcv_X11_439, rfl⟩, hh_X11_puts_191⟩) (fa_cons (⟨⟨3, _, pcv_X11_439, rfl⟩, hh_X11_puts_198⟩) (fa_cons (⟨⟨3, _, pcv_X11_439, rfl⟩, hh_X11_puts_199⟩) (fa_cons (⟨⟨3, _, pcv_X11_439, rfl⟩, hh_X11_puts_200⟩) (fa_cons (⟨⟨3, _, pcv_X11_439, rfl⟩, hh_X11_puts_201⟩) (fa_cons (⟨⟨3, _, pcv_X11_439, rfl⟩, hh_X11_puts_202⟩) (fa_cons (⟨⟨3, _, pcv_X11_439, rfl⟩, hh_X11_puts_203⟩) (fa_cons (⟨⟨3, _, pcv_X11_439, rfl⟩, hh_X11_puts_204⟩) (fa_cons (⟨⟨3, _, pcv_X11_439, rfl⟩, hh_X11_puts_205⟩) (fa_cons (⟨⟨3, _, pcv_X11_439, rfl⟩, hh_X11_puts_212⟩) (fa_cons (⟨⟨3, _, pcv_X11_439, rfl⟩, hh_X11_puts_213⟩) (fa_cons (⟨⟨3, _, pcv_X11_439, rfl⟩, hh_X11_puts_214⟩) (fa_cons (⟨⟨3, _, pcv_X11_439, rfl⟩, hh_X11_puts_215⟩) (fa_cons (⟨⟨3, _, pcv_X11_439, rfl⟩, hh_X11_puts_216⟩) (fa_cons (⟨⟨3, _, pcv_X11_439, rfl⟩, hh_X11_puts_217⟩) (fa_cons (⟨⟨3, _, pcv_X11_439, rfl⟩, hh_X11_puts_218⟩) (fa_cons (⟨⟨3, _, pcv_X11_439, rfl⟩, hh_X11_puts_219⟩) (fa_cons (⟨⟨3, _, pcv_X11_439, rfl⟩, hh_X11_puts_226⟩) (fa_cons (⟨⟨3, _, pcv_X11_439, rfl⟩, hh_X11_puts_227⟩) (fa_cons (⟨⟨3, _, pcv_X11_439, rfl⟩, hh_X11_puts_228⟩) (fa_cons (⟨⟨3, _, pcv_X11_439, rfl⟩, hh_X11_puts_229⟩) (fa_cons (⟨⟨3, _, pcv_X11_439, rfl⟩, hh_X11_puts_230⟩) (fa_cons (⟨⟨3, _, pcv_X11_439, rfl⟩, hh_X11_puts_231⟩) (fa_cons (⟨⟨3, _, pcv_X11_439, rfl⟩, hh_X11_puts_232⟩) (fa_cons (⟨⟨3, _, pcv_X11_439, rfl⟩, hh_X11_puts_233⟩) (fa_cons (⟨⟨3, _, pcv_X11_439, rfl⟩, hh_X11_puts_1⟩) (fa_cons (⟨⟨3, _, pcv_X11_439, rfl⟩, hh_X11_puts_12⟩) (fa_cons (⟨⟨3, _, pcv_X11_439, rfl⟩, hh_X11_puts_13⟩) (fa_cons (⟨⟨3, _, pcv_X11_439, rfl⟩, hh_X11_puts_14⟩) (fa_cons (⟨⟨3, _, pcv_X11_439, rfl⟩, hh_X11_puts_15⟩) (fa_cons (⟨⟨3, _, pcv_X11_439, rfl⟩, hh_X11_puts_26⟩) (fa_cons (⟨⟨3, _, pcv_X11_439, rfl⟩, hh_X11_puts_27⟩) (fa_cons (⟨⟨3, _, pcv_X11_439, rfl⟩, hh_X11_puts_28⟩) (fa_cons (⟨⟨3, _, pcv_X11_439, rfl⟩, hh_X11_puts_29⟩) (fa_cons (⟨⟨3, _, pcv_X11_439, rfl⟩, hh_X11_puts_40⟩) (fa_cons (⟨⟨3, _, pcv_X11_439, rfl⟩, hh_X11_puts_41⟩) (fa_cons (⟨⟨3, _, pcv_X11_439, rfl⟩, hh_X11_puts_42⟩) (fa_cons (⟨⟨3, _, pcv_X11_439, rfl⟩, hh_X11_puts_43⟩) (fa_cons (⟨⟨3, _, pcv_X11_439, rfl⟩, hh_X11_puts_54⟩) (fa_cons (⟨⟨3, _, pcv_X11_439, rfl⟩, hh_X11_puts_55⟩) (fa_cons (⟨⟨3, _, pcv_X11_439, rfl⟩, hh_X11_puts_56⟩) (fa_cons (⟨⟨3, _, pcv_X11_439, rfl⟩, hh_X11_puts_57⟩) (fa_cons (⟨⟨3, _, pcv_X11_439, rfl⟩, hh_X11_puts_68⟩) (fa_cons (⟨⟨3, _, pcv_X11_439, rfl⟩, hh_X11_puts_69⟩) (fa_cons (⟨⟨3, _, pcv_X11_439, rfl⟩, hh_X11_puts_70⟩) (fa_cons (⟨⟨3, _, pcv_X11_439, rfl⟩, hh_X11_puts_71⟩) (fa_cons (⟨⟨3, _, pcv_X11_439, rfl⟩, hh_X11_puts_82⟩) (fa_cons (⟨⟨3, _, pcv_X11_439, rfl⟩, hh_X11_puts_83⟩) (fa_cons (⟨⟨3, _, pcv_X11_439, rfl⟩, hh_X11_puts_84⟩) (fa_cons (⟨⟨3, _, pcv_X11_439, rfl⟩, hh_X11_puts_85⟩) (fa_cons (⟨⟨3, _, pcv_X11_439, rfl⟩, hh_X11_puts_96⟩) (fa_cons (⟨⟨3, _, pcv_X11_439, rfl⟩, hh_X11_puts_97⟩) (fa_cons (⟨⟨3, _, pcv_X11_439, rfl⟩, hh_X11_puts_98⟩) (fa_cons (⟨⟨3, _, pcv_X11_439, rfl⟩, hh_X11_puts_99⟩) (fa_cons (⟨⟨3, _, pcv_X11_439, rfl⟩, hh_X11_puts_110⟩) (fa_cons (⟨⟨3, _, pcv_X11_439, rfl⟩, hh_X11_puts_111⟩) (fa_cons (⟨⟨3, _, pcv_X11_439, rfl⟩, hh_X11_puts_112⟩) (fa_cons (⟨⟨3, _, pcv_X11_439, rfl⟩, hh_X11_puts_113⟩) (fa_cons (⟨⟨3, _, pcv_X11_439, rfl⟩, hh_X11_puts_124⟩) (fa_cons (⟨⟨3, _, pcv_X11_439, rfl⟩, hh_X11_puts_125⟩) (fa_cons (⟨⟨3, _, pcv_X11_439, rfl⟩, hh_X11_puts_126⟩) (fa_cons (⟨⟨3, _, pcv_X11_439, rfl⟩, hh_X11_puts_127⟩) (fa_cons (⟨⟨3, _, pcv_X11_439, rfl⟩, hh_X11_puts_138⟩) (fa_cons (⟨⟨3, _, pcv_X11_439, rfl⟩, hh_X11_puts_139⟩) (fa_cons (⟨⟨3, _, pcv_X11_439, rfl⟩, hh_X11_puts_140⟩) (fa_cons (⟨⟨3, _, pcv_X11_439, rfl⟩, hh_X11_puts_141⟩) (fa_cons (⟨⟨3, _, pcv_X11_439, rfl⟩, hh_X11_puts_152⟩) (fa_cons (⟨⟨3, _, pcv_X11_439, rfl⟩, hh_X11_puts_153⟩) (fa_cons (⟨⟨3, _, pcv_X11_439, rfl⟩, hh_X11_puts_154⟩) (fa_cons (⟨⟨3, _, pcv_X11_439, rfl⟩, hh_X11_puts_155⟩) (fa_cons (⟨⟨3, _, pcv_X11_439, rfl⟩, hh_X11_puts_166⟩) (fa_cons (⟨⟨3, _, pcv_X11_439, rfl⟩, hh_X11_puts_167⟩) (fa_cons (⟨⟨3, _, pcv_X11_439, rfl⟩, hh_X11_puts_168⟩) (fa_cons (⟨⟨3, _, pcv_X11_439, rfl⟩, hh_X11_puts_169⟩) (fa_cons (⟨⟨3, _, pcv_X11_439, rfl⟩, hh_X11_puts_180⟩) (fa_cons (⟨⟨3, _, pcv_X11_439, rfl⟩, hh_X11_puts_181⟩) (fa_cons (⟨⟨3, _, pcv_X11_439, rfl⟩, hh_X11_puts_182⟩) (fa_cons (⟨⟨3, _, pcv_X11_439, rfl⟩, hh_X11_puts_183⟩) (fa_cons (⟨⟨3, _, pcv_X11_439, rfl⟩, hh_X11_puts_194⟩) (fa_cons (⟨⟨3, _, pcv_X11_439, rfl⟩, hh_X11_puts_195⟩) (fa_cons (⟨⟨3, _, pcv_X11_439, rfl⟩, hh_X11_puts_196⟩) (fa_cons (⟨⟨3, _, pcv_X11_439, rfl⟩, hh_X11_puts_197⟩) (fa_cons (⟨⟨3, _, pcv_X11_439, rfl⟩, hh_X11_puts_208⟩) (fa_cons (⟨⟨3, _, pcv_X11_439, rfl⟩, hh_X11_puts_209⟩) (fa_cons (⟨⟨3, _, pcv_X11_439, rfl⟩, hh_X11_puts_210⟩) (fa_cons (⟨⟨3, _, pcv_X11_439, rfl⟩, hh_X11_puts_211⟩) (fa_cons (⟨⟨3, _, pcv_X11_439, rfl⟩, hh_X11_puts_222⟩) (fa_cons (⟨⟨3, _, pcv_X11_439, rfl⟩, hh_X11_puts_223⟩) (fa_cons (⟨⟨3, _, pcv_X11_439, rfl⟩, hh_X11_puts_224⟩) (fa_cons (⟨⟨3, _, pcv_X11_439, rfl⟩, hh_X11_puts_225⟩) (fa_cons (⟨⟨3, _, pcv_X11_439, rfl⟩, hh_X11_puts_236⟩) (fa_cons (⟨⟨3, _, pcv_X11_439, rfl⟩, hh_X11_puts_237⟩) (fa_cons (⟨⟨3, _, pcv_X11_439, rfl⟩, hh_X11_puts_238⟩) (fa_nil)))))))))))))))))))))))))))))))))))))))))))))))))))))))))))))))))))))))))))))))))))))))))))))))))))))))))))))))))))))))))))))))))))))))))))))))))))))))))))))))))))))))))))))))))))))))))))))))))))))))))))))))))))))))))))))))))))))))))))))))⟩ dtX11_putsAll (by decide +kernel)
abbrev cc_X11_image_0 : scC := (qX11_image, 2, [], [.inr (.inr (.inl [0]))], [], [(1, ((-1), 3), [], [], [])], [(0, 0, 1), (0, 32, 1), (0, 34, 2), (7, 0, 14), (503, 0, 14), (504, 0, 14), (505, 0, 14), (506, 0, 14), (507, 0, 14), (508, 0, 14), (509, 0, 14), (510, 0, 14), (511, 0, 14), (512, 0, 14), (513, 0, 14), (514, 0, 14), (515, 0, 14), (516, 0, 14), (517, 0, 14), (518, 0, 14), (519, 0, 239), (520, 0, 239), (521, 0, 239)])
set_option maxRecDepth 20000 in
abbrev xx_X11_image_0 : scX := (Tm, invM, lnX11, [(443, 0, 11, cc_X11_putsAll_0)], cc_X11_image_0)
set_option maxRecDepth 20000 in
theorem hh_X11_image_0 : scH Tm invM cc_X11_image_0 := scCheck_ok (X := xx_X11_image_0) (nodes := []) (fuel := 4000) ⟨lqX11, fa_cons (⟨⟨2, _, pcv_X11_443, rfl⟩, hh_X11_putsAll_0⟩) (fa_nil)⟩ dtX11_image (by decide +kernel)
abbrev cc_X11_puts_239 : scC := (qX11_puts, 0, [(0, 16)], [.inr (.inr (.inl [0])), .inr (.inr (.inl [519, 520, 521])), .inl (some 0, 0), .inl (none, 1)], [((0, 35), (none, 0))], [(1, (0, 16), [], [], [((0, 35), (1, 1))])], [(0, 35, 1)])
set_option maxRecDepth 20000 in
abbrev xx_X11_puts_239 : scX := (Tm, invM, lnX11, [], cc_X11_puts_239)
set_option maxRecDepth 20000 in
theorem hh_X11_puts_239 : scH Tm invM cc_X11_puts_239 := scCheck_ok (X := xx_X11_puts_239) (nodes := []) (fuel := 4000) ⟨lqX11, fa_nil⟩ dtX11_puts (by decide +kernel)
abbrev cc_X11_puts_240 : scC := (qX11_puts, 0, [((-2147483648), 2147483647)], [.inr (.inr (.inl [0])), .inr (.inr (.inl [519, 520, 521])), .inl (some 0, 0), .inl (none, 1)], [((0, 35), (none, 1))], [(1, ((-2147483648), 2147483647), [], [], [((0, 35), (2, 2))])], [(0, 35, 1)])
set_option maxRecDepth 20000 in
abbrev xx_X11_puts_240 : scX := (Tm, invM, lnX11, [], cc_X11_puts_240)
set_option maxRecDepth 20000 in
theorem hh_X11_puts_240 : scH Tm invM cc_X11_puts_240 := scCheck_ok (X := xx_X11_puts_240) (nodes := []) (fuel := 4000) ⟨lqX11, fa_nil⟩ dtX11_puts (by decide +kernel)
abbrev cc_X11_puts_241 : scC := (qX11_puts, 0, [((-1000), 200)], [.inr (.inr (.inl [0])), .inr (.inr (.inl [519, 520, 521])), .inl (some 0, 0), .inl (none, 1)], [((0, 35), (none, 2))], [(1, ((-1000), 200), [], [], [((0, 35), (3, 3))])], [(0, 35, 1)])
set_option maxRecDepth 20000 in
abbrev xx_X11_puts_241 : scX := (Tm, invM, lnX11, [], cc_X11_puts_241)
set_option maxRecDepth 20000 in
theorem hh_X11_puts_241 : scH Tm invM cc_X11_puts_241 := scCheck_ok (X := xx_X11_puts_241) (nodes := []) (fuel := 4000) ⟨lqX11, fa_nil⟩ dtX11_puts (by decide +kernel)
abbrev cc_X11_puts_242 : scC := (qX11_puts, 0, [((-1000), 200)], [.inr (.inr (.inl [0])), .inr (.inr (.inl [519, 520, 521])), .inl (some 0, 0), .inl (none, 1)], [((0, 35), (none, 3))], [(1, ((-1000), 200), [], [], [((0, 35), (4, 4))])], [(0, 35, 1)])
set_option maxRecDepth 20000 in
abbrev xx_X11_puts_242 : scX := (Tm, invM, lnX11, [], cc_X11_puts_242)
set_option maxRecDepth 20000 in
theorem hh_X11_puts_242 : scH Tm invM cc_X11_puts_242 := scCheck_ok (X := xx_X11_puts_242) (nodes := []) (fuel := 4000) ⟨lqX11, fa_nil⟩ dtX11_puts (by decide +kernel)
abbrev cc_X11_puts_243 : scC := (qX11_puts, 0, [((-1000), 200)], [.inr (.inr (.inl [0])), .inr (.inr (.inl [519, 520, 521])), .inl (some 0, 0), .inl (none, 1)], [((0, 35), (none, 4))], [(1, ((-1000), 200), [], [], [((0, 35), (5, 5))])], [(0, 35, 1)])
set_option maxRecDepth 20000 in
abbrev xx_X11_puts_243 : scX := (Tm, invM, lnX11, [], cc_X11_puts_243)
set_option maxRecDepth 20000 in
theorem hh_X11_puts_243 : scH Tm invM cc_X11_puts_243 := scCheck_ok (X := xx_X11_puts_243) (nodes := []) (fuel := 4000) ⟨lqX11, fa_nil⟩ dtX11_puts (by decide +kernel)
abbrev cc_X11_puts_244 : scC := (qX11_puts, 0, [((-1000), 200)], [.inr (.inr (.inl [0])), .inr (.inr (.inl [519, 520, 521])), .inl (some 0, 0), .inl (none, 1)], [((0, 35), (none, 5))], [(1, ((-1000), 200), [], [], [((0, 35), (6, 6))])], [(0, 35, 1)])
set_option maxRecDepth 20000 in
abbrev xx_X11_puts_244 : scX := (Tm, invM, lnX11, [], cc_X11_puts_244)
set_option maxRecDepth 20000 in
theorem hh_X11_puts_244 : scH Tm invM cc_X11_puts_244 := scCheck_ok (X := xx_X11_puts_244) (nodes := []) (fuel := 4000) ⟨lqX11, fa_nil⟩ dtX11_puts (by decide +kernel)
abbrev cc_X11_puts_245 : scC := (qX11_puts, 0, [((-1000), 200)], [.inr (.inr (.inl [0])), .inr (.inr (.inl [519, 520, 521])), .inl (some 0, 0), .inl (none, 1)], [((0, 35), (none, 6))], [(1, ((-1000), 200), [], [], [((0, 35), (7, 7))])], [(0, 35, 1)])
set_option maxRecDepth 20000 in
abbrev xx_X11_puts_245 : scX := (Tm, invM, lnX11, [], cc_X11_puts_245)
set_option maxRecDepth 20000 in
theorem hh_X11_puts_245 : scH Tm invM cc_X11_puts_245 := scCheck_ok (X := xx_X11_puts_245) (nodes := []) (fuel := 4000) ⟨lqX11, fa_nil⟩ dtX11_puts (by decide +kernel)
abbrev cc_X11_puts_246 : scC := (qX11_puts, 0, [((-1000), 200)], [.inr (.inr (.inl [0])), .inr (.inr (.inl [519, 520, 521])), .inl (some 0, 0), .inl (none, 1)], [((0, 35), (none, 7))], [(1, ((-1000), 200), [], [], [((0, 35), (8, 8))])], [(0, 35, 1)])
set_option maxRecDepth 20000 in
abbrev xx_X11_puts_246 : scX := (Tm, invM, lnX11, [], cc_X11_puts_246)
set_option maxRecDepth 20000 in
theorem hh_X11_puts_246 : scH Tm invM cc_X11_puts_246 := scCheck_ok (X := xx_X11_puts_246) (nodes := []) (fuel := 4000) ⟨lqX11, fa_nil⟩ dtX11_puts (by decide +kernel)
abbrev cc_X11_puts_247 : scC := (qX11_puts, 0, [((-1000), 200)], [.inr (.inr (.inl [0])), .inr (.inr (.inl [519, 520, 521])), .inl (some 0, 0), .inl (none, 1)], [((0, 35), (none, 8))], [(1, ((-1000), 200), [], [], [((0, 35), (9, 9))])], [(0, 35, 1)])
set_option maxRecDepth 20000 in
abbrev xx_X11_puts_247 : scX := (Tm, invM, lnX11, [], cc_X11_puts_247)
set_option maxRecDepth 20000 in
theorem hh_X11_puts_247 : scH Tm invM cc_X11_puts_247 := scCheck_ok (X := xx_X11_puts_247) (nodes := []) (fuel := 4000) ⟨lqX11, fa_nil⟩ dtX11_puts (by decide +kernel)
abbrev cc_X11_puts_248 : scC := (qX11_puts, 0, [((-1000), 200)], [.inr (.inr (.inl [0])), .inr (.inr (.inl [519, 520, 521])), .inl (some 0, 0), .inl (none, 1)], [((0, 35), (none, 9))], [(1, ((-1000), 200), [], [], [((0, 35), (10, 10))])], [(0, 35, 1)])
set_option maxRecDepth 20000 in
abbrev xx_X11_puts_248 : scX := (Tm, invM, lnX11, [], cc_X11_puts_248)
set_option maxRecDepth 20000 in
theorem hh_X11_puts_248 : scH Tm invM cc_X11_puts_248 := scCheck_ok (X := xx_X11_puts_248) (nodes := []) (fuel := 4000) ⟨lqX11, fa_nil⟩ dtX11_puts (by decide +kernel)
abbrev cc_X11_puts_249 : scC := (qX11_puts, 0, [(0, 12)], [.inr (.inr (.inl [0])), .inr (.inr (.inl [519, 520, 521])), .inl (some 0, 0), .inl (none, 1)], [((0, 35), (none, 10))], [(1, (0, 12), [], [], [((0, 35), (11, 11))])], [(0, 35, 1)])
set_option maxRecDepth 20000 in
abbrev xx_X11_puts_249 : scX := (Tm, invM, lnX11, [], cc_X11_puts_249)
set_option maxRecDepth 20000 in
theorem hh_X11_puts_249 : scH Tm invM cc_X11_puts_249 := scCheck_ok (X := xx_X11_puts_249) (nodes := []) (fuel := 4000) ⟨lqX11, fa_nil⟩ dtX11_puts (by decide +kernel)
abbrev cc_X11_puts_250 : scC := (qX11_puts, 0, [(0, 200)], [.inr (.inr (.inl [0])), .inr (.inr (.inl [519, 520, 521])), .inl (some 0, 0), .inl (none, 1)], [((0, 35), (none, 11))], [(1, (0, 200), [], [], [((0, 35), (12, 12))])], [(0, 35, 1)])
set_option maxRecDepth 20000 in
abbrev xx_X11_puts_250 : scX := (Tm, invM, lnX11, [], cc_X11_puts_250)
set_option maxRecDepth 20000 in
theorem hh_X11_puts_250 : scH Tm invM cc_X11_puts_250 := scCheck_ok (X := xx_X11_puts_250) (nodes := []) (fuel := 4000) ⟨lqX11, fa_nil⟩ dtX11_puts (by decide +kernel)
abbrev cc_X11_puts_251 : scC := (qX11_puts, 0, [((-2147483648), 2147483647)], [.inr (.inr (.inl [0])), .inr (.inr (.inl [519, 520, 521])), .inl (some 0, 0), .inl (none, 1)], [((0, 35), (none, 12))], [(1, ((-2147483648), 2147483647), [], [], [((0, 35), (13, 13))])], [(0, 35, 1)])
set_option maxRecDepth 20000 in
abbrev xx_X11_puts_251 : scX := (Tm, invM, lnX11, [], cc_X11_puts_251)
set_option maxRecDepth 20000 in
theorem hh_X11_puts_251 : scH Tm invM cc_X11_puts_251 := scCheck_ok (X := xx_X11_puts_251) (nodes := []) (fuel := 4000) ⟨lqX11, fa_nil⟩ dtX11_puts (by decide +kernel)
abbrev cc_X11_puts_252 : scC := (qX11_puts, 0, [((-2147483648), 2147483647)], [.inr (.inr (.inl [0])), .inr (.inr (.inl [519, 520, 521])), .inl (some 0, 0), .inl (none, 1)], [((0, 35), (none, 13))], [(1, ((-2147483648), 2147483647), [], [], [((0, 35), (14, 14))])], [(0, 35, 1)])
set_option maxRecDepth 20000 in
abbrev xx_X11_puts_252 : scX := (Tm, invM, lnX11, [], cc_X11_puts_252)
set_option maxRecDepth 20000 in
theorem hh_X11_puts_252 : scH Tm invM cc_X11_puts_252 := scCheck_ok (X := xx_X11_puts_252) (nodes := []) (fuel := 4000) ⟨lqX11, fa_nil⟩ dtX11_puts (by decide +kernel)
abbrev cc_X11_puts_253 : scC := (qX11_puts, 0, [((-2147483648), 2147483647)], [.inr (.inr (.inl [0])), .inr (.inr (.inl [519, 520, 521])), .inl (some 0, 0), .inl (none, 1)], [((0, 35), (none, 14))], [(1, ((-2147483648), 2147483647), [], [], [((0, 35), (15, 15))])], [(0, 35, 1)])
set_option maxRecDepth 20000 in
abbrev xx_X11_puts_253 : scX := (Tm, invM, lnX11, [], cc_X11_puts_253)
set_option maxRecDepth 20000 in
theorem hh_X11_puts_253 : scH Tm invM cc_X11_puts_253 := scCheck_ok (X := xx_X11_puts_253) (nodes := []) (fuel := 4000) ⟨lqX11, fa_nil⟩ dtX11_puts (by decide +kernel)
abbrev cc_X11_puts_254 : scC := (qX11_puts, 0, [((-2147483648), 2147483647)], [.inr (.inr (.inl [0])), .inr (.inr (.inl [519, 520, 521])), .inl (some 0, 0), .inl (none, 1)], [((0, 35), (none, 15))], [(1, ((-2147483648), 2147483647), [], [], [((0, 35), (16, 16))])], [(0, 35, 1)])
set_option maxRecDepth 20000 in
abbrev xx_X11_puts_254 : scX := (Tm, invM, lnX11, [], cc_X11_puts_254)
set_option maxRecDepth 20000 in
theorem hh_X11_puts_254 : scH Tm invM cc_X11_puts_254 := scCheck_ok (X := xx_X11_puts_254) (nodes := []) (fuel := 4000) ⟨lqX11, fa_nil⟩ dtX11_puts (by decide +kernel)
abbrev cc_X11_puts_255 : scC := (qX11_puts, 0, [((-1000), 200)], [.inr (.inr (.inl [0])), .inr (.inr (.inl [519, 520, 521])), .inl (some 0, 0), .inl (none, 1)], [((0, 35), (none, 16))], [(1, ((-1000), 200), [], [], [((0, 35), (17, 17))])], [(0, 35, 1)])
set_option maxRecDepth 20000 in
abbrev xx_X11_puts_255 : scX := (Tm, invM, lnX11, [], cc_X11_puts_255)
set_option maxRecDepth 20000 in
theorem hh_X11_puts_255 : scH Tm invM cc_X11_puts_255 := scCheck_ok (X := xx_X11_puts_255) (nodes := []) (fuel := 4000) ⟨lqX11, fa_nil⟩ dtX11_puts (by decide +kernel)
abbrev cc_X11_puts_256 : scC := (qX11_puts, 0, [((-1000), 200)], [.inr (.inr (.inl [0])), .inr (.inr (.inl [519, 520, 521])), .inl (some 0, 0), .inl (none, 1)], [((0, 35), (none, 17))], [(1, ((-1000), 200), [], [], [((0, 35), (18, 18))])], [(0, 35, 1)])
set_option maxRecDepth 20000 in
abbrev xx_X11_puts_256 : scX := (Tm, invM, lnX11, [], cc_X11_puts_256)
set_option maxRecDepth 20000 in
theorem hh_X11_puts_256 : scH Tm invM cc_X11_puts_256 := scCheck_ok (X := xx_X11_puts_256) (nodes := []) (fuel := 4000) ⟨lqX11, fa_nil⟩ dtX11_puts (by decide +kernel)
abbrev cc_X11_puts_257 : scC := (qX11_puts, 0, [((-1000), 200)], [.inr (.inr (.inl [0])), .inr (.inr (.inl [519, 520, 521])), .inl (some 0, 0), .inl (none, 1)], [((0, 35), (none, 18))], [(1, ((-1000), 200), [], [], [((0, 35), (19, 19))])], [(0, 35, 1)])
set_option maxRecDepth 20000 in
abbrev xx_X11_puts_257 : scX := (Tm, invM, lnX11, [], cc_X11_puts_257)
set_option maxRecDepth 20000 in
theorem hh_X11_puts_257 : scH Tm invM cc_X11_puts_257 := scCheck_ok (X := xx_X11_puts_257) (nodes := []) (fuel := 4000) ⟨lqX11, fa_nil⟩ dtX11_puts (by decide +kernel)
abbrev cc_X11_puts_258 : scC := (qX11_puts, 0, [((-1000), 200)], [.inr (.inr (.inl [0])), .inr (.inr (.inl [519, 520, 521])), .inl (some 0, 0), .inl (none, 1)], [((0, 35), (none, 19))], [(1, ((-1000), 200), [], [], [((0, 35), (20, 20))])], [(0, 35, 1)])
set_option maxRecDepth 20000 in
abbrev xx_X11_puts_258 : scX := (Tm, invM, lnX11, [], cc_X11_puts_258)
set_option maxRecDepth 20000 in
theorem hh_X11_puts_258 : scH Tm invM cc_X11_puts_258 := scCheck_ok (X := xx_X11_puts_258) (nodes := []) (fuel := 4000) ⟨lqX11, fa_nil⟩ dtX11_puts (by decide +kernel)
