abbrev cc_X11_puts_141 : scC := (qX11_puts, 0, [((-2147483648), 2147483647)], [.inr (.inr (.inl [0])), .inr (.inr (.inl [519, 520, 521])), .inl (some 0, 0), .inl (none, 0)], [((0, 35), (none, 141))], [(1, ((-2147483648), 2147483647), [], [], [((0, 35), (142, 142))])], [(0, 35, 1), (519, 141, 1), (520, 141, 1), (521, 141, 1)])
set_option maxRecDepth 20000 in
abbrev xx_X11_puts_141 : scX := (Tm, invM, lnX11, [], cc_X11_puts_141)
set_option maxRecDepth 20000 in
theorem hh_X11_puts_141 : scH Tm invM cc_X11_puts_141 := scCheck_ok (X := xx_X11_puts_141) (nodes := []) (fuel := 4000) ⟨lqX11, fa_nil⟩ dtX11_puts (by decide +kernel)
abbrev cc_X11_puts_142 : scC := (qX11_puts, 0, [((-1000), 200)], [.inr (.inr (.inl [0])), .inr (.inr (.inl [519, 520, 521])), .inl (some 0, 0), .inl (none, 0)], [((0, 35), (none, 142))], [(1, ((-1000), 200), [], [], [((0, 35), (143, 143))])], [(0, 35, 1), (519, 142, 1), (520, 142, 1), (521, 142, 1)])
set_option maxRecDepth 20000 in
abbrev xx_X11_puts_142 : scX := (Tm, invM, lnX11, [], cc_X11_puts_142)
set_option maxRecDepth 20000 in
theorem hh_X11_puts_142 : scH Tm invM cc_X11_puts_142 := scCheck_ok (X := xx_X11_puts_142) (nodes := []) (fuel := 4000) ⟨lqX11, fa_nil⟩ dtX11_puts (by decide +kernel)
abbrev cc_X11_puts_143 : scC := (qX11_puts, 0, [((-1000), 200)], [.inr (.inr (.inl [0])), .inr (.inr (.inl [519, 520, 521])), .inl (some 0, 0), .inl (none, 0)], [((0, 35), (none, 143))], [(1, ((-1000), 200), [], [], [((0, 35), (144, 144))])], [(0, 35, 1), (519, 143, 1), (520, 143, 1), (521, 143, 1)])
set_option maxRecDepth 20000 in
abbrev xx_X11_puts_143 : scX := (Tm, invM, lnX11, [], cc_X11_puts_143)
set_option maxRecDepth 20000 in
theorem hh_X11_puts_143 : scH Tm invM cc_X11_puts_143 := scCheck_ok (X := xx_X11_puts_143) (nodes := []) (fuel := 4000) ⟨lqX11, fa_nil⟩ dtX11_puts (by decide +kernel)
abbrev cc_X11_puts_144 : scC := (qX11_puts, 0, [((-1000), 200)], [.inr (.inr (.inl [0])), .inr (.inr (.inl [519, 520, 521])), .inl (some 0, 0), .inl (none, 0)], [((0, 35), (none, 144))], [(1, ((-1000), 200), [], [], [((0, 35), (145, 145))])], [(0, 35, 1), (519, 144, 1), (520, 144, 1), (521, 144, 1)])
set_option maxRecDepth 20000 in
abbrev xx_X11_puts_144 : scX := (Tm, invM, lnX11, [], cc_X11_puts_144)
set_option maxRecDepth 20000 in
theorem hh_X11_puts_144 : scH Tm invM cc_X11_puts_144 := scCheck_ok (X := xx_X11_puts_144) (nodes := []) (fuel := 4000) ⟨lqX11, fa_nil⟩ dtX11_puts (by decide +kernel)
abbrev cc_X11_puts_145 : scC := (qX11_puts, 0, [((-1000), 200)], [.inr (.inr (.inl [0])), .inr (.inr (.inl [519, 520, 521])), .inl (some 0, 0), .inl (none, 0)], [((0, 35), (none, 145))], [(1, ((-1000), 200), [], [], [((0, 35), (146, 146))])], [(0, 35, 1), (519, 145, 1), (520, 145, 1), (521, 145, 1)])
set_option maxRecDepth 20000 in
abbrev xx_X11_puts_145 : scX := (Tm, invM, lnX11, [], cc_X11_puts_145)
set_option maxRecDepth 20000 in
theorem hh_X11_puts_145 : scH Tm invM cc_X11_puts_145 := scCheck_ok (X := xx_X11_puts_145) (nodes := []) (fuel := 4000) ⟨lqX11, fa_nil⟩ dtX11_puts (by decide +kernel)
abbrev cc_X11_puts_146 : scC := (qX11_puts, 0, [((-1000), 200)], [.inr (.inr (.inl [0])), .inr (.inr (.inl [519, 520, 521])), .inl (some 0, 0), .inl (none, 0)], [((0, 35), (none, 146))], [(1, ((-1000), 200), [], [], [((0, 35), (147, 147))])], [(0, 35, 1), (519, 146, 1), (520, 146, 1), (521, 146, 1)])
set_option maxRecDepth 20000 in
abbrev xx_X11_puts_146 : scX := (Tm, invM, lnX11, [], cc_X11_puts_146)
set_option maxRecDepth 20000 in
theorem hh_X11_puts_146 : scH Tm invM cc_X11_puts_146 := scCheck_ok (X := xx_X11_puts_146) (nodes := []) (fuel := 4000) ⟨lqX11, fa_nil⟩ dtX11_puts (by decide +kernel)
abbrev cc_X11_puts_147 : scC := (qX11_puts, 0, [((-1000), 200)], [.inr (.inr (.inl [0])), .inr (.inr (.inl [519, 520, 521])), .inl (some 0, 0), .inl (none, 0)], [((0, 35), (none, 147))], [(1, ((-1000), 200), [], [], [((0, 35), (148, 148))])], [(0, 35, 1), (519, 147, 1), (520, 147, 1), (521, 147, 1)])
set_option maxRecDepth 20000 in
abbrev xx_X11_puts_147 : scX := (Tm, invM, lnX11, [], cc_X11_puts_147)
set_option maxRecDepth 20000 in
theorem hh_X11_puts_147 : scH Tm invM cc_X11_puts_147 := scCheck_ok (X := xx_X11_puts_147) (nodes := []) (fuel := 4000) ⟨lqX11, fa_nil⟩ dtX11_puts (by decide +kernel)
abbrev cc_X11_puts_148 : scC := (qX11_puts, 0, [((-1000), 200)], [.inr (.inr (.inl [0])), .inr (.inr (.inl [519, 520, 521])), .inl (some 0, 0), .inl (none, 0)], [((0, 35), (none, 148))], [(1, ((-1000), 200), [], [], [((0, 35), (149, 149))])], [(0, 35, 1), (519, 148, 1), (520, 148, 1), (521, 148, 1)])
set_option maxRecDepth 20000 in
abbrev xx_X11_puts_148 : scX := (Tm, invM, lnX11, [], cc_X11_puts_148)
set_option maxRecDepth 20000 in
theorem hh_X11_puts_148 : scH Tm invM cc_X11_puts_148 := scCheck_ok (X := xx_X11_puts_148) (nodes := []) (fuel := 4000) ⟨lqX11, fa_nil⟩ dtX11_puts (by decide +kernel)
abbrev cc_X11_puts_149 : scC := (qX11_puts, 0, [((-1000), 200)], [.inr (.inr (.inl [0])), .inr (.inr (.inl [519, 520, 521])), .inl (some 0, 0), .inl (none, 0)], [((0, 35), (none, 149))], [(1, ((-1000), 200), [], [], [((0, 35), (150, 150))])], [(0, 35, 1), (519, 149, 1), (520, 149, 1), (521, 149, 1)])
set_option maxRecDepth 20000 in
abbrev xx_X11_puts_149 : scX := (Tm, invM, lnX11, [], cc_X11_puts_149)
set_option maxRecDepth 20000 in
theorem hh_X11_puts_149 : scH Tm invM cc_X11_puts_149 := scCheck_ok (X := xx_X11_puts_149) (nodes := []) (fuel := 4000) ⟨lqX11, fa_nil⟩ dtX11_puts (by decide +kernel)
abbrev cc_X11_puts_150 : scC := (qX11_puts, 0, [(0, 12)], [.inr (.inr (.inl [0])), .inr (.inr (.inl [519, 520, 521])), .inl (some 0, 0), .inl (none, 0)], [((0, 35), (none, 150))], [(1, (0, 12), [], [], [((0, 35), (151, 151))])], [(0, 35, 1), (519, 150, 1), (520, 150, 1), (521, 150, 1)])
set_option maxRecDepth 20000 in
abbrev xx_X11_puts_150 : scX := (Tm, invM, lnX11, [], cc_X11_puts_150)
set_option maxRecDepth 20000 in
theorem hh_X11_puts_150 : scH Tm invM cc_X11_puts_150 := scCheck_ok (X := xx_X11_puts_150) (nodes := []) (fuel := 4000) ⟨lqX11, fa_nil⟩ dtX11_puts (by decide +kernel)
abbrev cc_X11_puts_151 : scC := (qX11_puts, 0, [(0, 200)], [.inr (.inr (.inl [0])), .inr (.inr (.inl [519, 520, 521])), .inl (some 0, 0), .inl (none, 0)], [((0, 35), (none, 151))], [(1, (0, 200), [], [], [((0, 35), (152, 152))])], [(0, 35, 1), (519, 151, 1), (520, 151, 1), (521, 151, 1)])
set_option maxRecDepth 20000 in
abbrev xx_X11_puts_151 : scX := (Tm, invM, lnX11, [], cc_X11_puts_151)
set_option maxRecDepth 20000 in
theorem hh_X11_puts_151 : scH Tm invM cc_X11_puts_151 := scCheck_ok (X := xx_X11_puts_151) (nodes := []) (fuel := 4000) ⟨lqX11, fa_nil⟩ dtX11_puts (by decide +kernel)
abbrev cc_X11_puts_152 : scC := (qX11_puts, 0, [((-2147483648), 2147483647)], [.inr (.inr (.inl [0])), .inr (.inr (.inl [519, 520, 521])), .inl (some 0, 0), .inl (none, 0)], [((0, 35), (none, 152))], [(1, ((-2147483648), 2147483647), [], [], [((0, 35), (153, 153))])], [(0, 35, 1), (519, 152, 1), (520, 152, 1), (521, 152, 1)])
set_option maxRecDepth 20000 in
abbrev xx_X11_puts_152 : scX := (Tm, invM, lnX11, [], cc_X11_puts_152)
set_option maxRecDepth 20000 in
theorem hh_X11_puts_152 : scH Tm invM cc_X11_puts_152 := scCheck_ok (X := xx_X11_puts_152) (nodes := []) (fuel := 4000) ⟨lqX11, fa_nil⟩ dtX11_puts (by decide +kernel)
abbrev cc_X11_puts_153 : scC := (qX11_puts, 0, [((-2147483648), 2147483647)], [.inr (.inr (.inl [0])), .inr (.inr (.inl [519, 520, 521])), .inl (some 0, 0), .inl (none, 0)], [((0, 35), (none, 153))], [(1, ((-2147483648), 2147483647), [], [], [((0, 35), (154, 154))])], [(0, 35, 1), (519, 153, 1), (520, 153, 1), (521, 153, 1)])
set_option maxRecDepth 20000 in
abbrev xx_X11_puts_153 : scX := (Tm, invM, lnX11, [], cc_X11_puts_153)
set_option maxRecDepth 20000 in
theorem hh_X11_puts_153 : scH Tm invM cc_X11_puts_153 := scCheck_ok (X := xx_X11_puts_153) (nodes := []) (fuel := 4000) ⟨lqX11, fa_nil⟩ dtX11_puts (by decide +kernel)
abbrev cc_X11_puts_154 : scC := (qX11_puts, 0, [((-2147483648), 2147483647)], [.inr (.inr (.inl [0])), .inr (.inr (.inl [519, 520, 521])), .inl (some 0, 0), .inl (none, 0)], [((0, 35), (none, 154))], [(1, ((-2147483648), 2147483647), [], [], [((0, 35), (155, 155))])], [(0, 35, 1), (519, 154, 1), (520, 154, 1), (521, 154, 1)])
set_option maxRecDepth 20000 in
abbrev xx_X11_puts_154 : scX := (Tm, invM, lnX11, [], cc_X11_puts_154)
set_option maxRecDepth 20000 in
theorem hh_X11_puts_154 : scH Tm invM cc_X11_puts_154 := scCheck_ok (X := xx_X11_puts_154) (nodes := []) (fuel := 4000) ⟨lqX11, fa_nil⟩ dtX11_puts (by decide +kernel)
abbrev cc_X11_puts_155 : scC := (qX11_puts, 0, [((-2147483648), 2147483647)], [.inr (.inr (.inl [0])), .inr (.inr (.inl [519, 520, 521])), .inl (some 0, 0), .inl (none, 0)], [((0, 35), (none, 155))], [(1, ((-2147483648), 2147483647), [], [], [((0, 35), (156, 156))])], [(0, 35, 1), (519, 155, 1), (520, 155, 1), (521, 155, 1)])
set_option maxRecDepth 20000 in
abbrev xx_X11_puts_155 : scX := (Tm, invM, lnX11, [], cc_X11_puts_155)
set_option maxRecDepth 20000 in
theorem hh_X11_puts_155 : scH Tm invM cc_X11_puts_155 := scCheck_ok (X := xx_X11_puts_155) (nodes := []) (fuel := 4000) ⟨lqX11, fa_nil⟩ dtX11_puts (by decide +kernel)
abbrev cc_X11_puts_156 : scC := (qX11_puts, 0, [((-1000), 200)], [.inr (.inr (.inl [0])), .inr (.inr (.inl [519, 520, 521])), .inl (some 0, 0), .inl (none, 0)], [((0, 35), (none, 156))], [(1, ((-1000), 200), [], [], [((0, 35), (157, 157))])], [(0, 35, 1), (519, 156, 1), (520, 156, 1), (521, 156, 1)])
set_option maxRecDepth 20000 in
abbrev xx_X11_puts_156 : scX := (Tm, invM, lnX11, [], cc_X11_puts_156)
set_option maxRecDepth 20000 in
theorem hh_X11_puts_156 : scH Tm invM cc_X11_puts_156 := scCheck_ok (X := xx_X11_puts_156) (nodes := []) (fuel := 4000) ⟨lqX11, fa_nil⟩ dtX11_puts (by decide +kernel)
abbrev cc_X11_puts_157 : scC := (qX11_puts, 0, [((-1000), 200)], [.inr (.inr (.inl [0])), .inr (.inr (.inl [519, 520, 521])), .inl (some 0, 0), .inl (none, 0)], [((0, 35), (none, 157))], [(1, ((-1000), 200), [], [], [((0, 35), (158, 158))])], [(0, 35, 1), (519, 157, 1), (520, 157, 1), (521, 157, 1)])
set_option maxRecDepth 20000 in
abbrev xx_X11_puts_157 : scX := (Tm, invM, lnX11, [], cc_X11_puts_157)
set_option maxRecDepth 20000 in
theorem hh_X11_puts_157 : scH Tm invM cc_X11_puts_157 := scCheck_ok (X := xx_X11_puts_157) (nodes := []) (fuel := 4000) ⟨lqX11, fa_nil⟩ dtX11_puts (by decide +kernel)
abbrev cc_X11_puts_158 : scC := (qX11_puts, 0, [((-1000), 200)], [.inr (.inr (.inl [0])), .inr (.inr (.inl [519, 520, 521])), .inl (some 0, 0), .inl (none, 0)], [((0, 35), (none, 158))], [(1, ((-1000), 200), [], [], [((0, 35), (159, 159))])], [(0, 35, 1), (519, 158, 1), (520, 158, 1), (521, 158, 1)])
set_option maxRecDepth 20000 in
abbrev xx_X11_puts_158 : scX := (Tm, invM, lnX11, [], cc_X11_puts_158)
set_option maxRecDepth 20000 in
theorem hh_X11_puts_158 : scH Tm invM cc_X11_puts_158 := scCheck_ok (X := xx_X11_puts_158) (nodes := []) (fuel := 4000) ⟨lqX11, fa_nil⟩ dtX11_puts (by decide +kernel)
abbrev cc_X11_puts_159 : scC := (qX11_puts, 0, [((-1000), 200)], [.inr (.inr (.inl [0])), .inr (.inr (.inl [519, 520, 521])), .inl (some 0, 0), .inl (none, 0)], [((0, 35), (none, 159))], [(1, ((-1000), 200), [], [], [((0, 35), (160, 160))])], [(0, 35, 1), (519, 159, 1), (520, 159, 1), (521, 159, 1)])
set_option maxRecDepth 20000 in
abbrev xx_X11_puts_159 : scX := (Tm, invM, lnX11, [], cc_X11_puts_159)
set_option maxRecDepth 20000 in
theorem hh_X11_puts_159 : scH Tm invM cc_X11_puts_159 := scCheck_ok (X := xx_X11_puts_159) (nodes := []) (fuel := 4000) ⟨lqX11, fa_nil⟩ dtX11_puts (by decide +kernel)
abbrev cc_X11_puts_160 : scC := (qX11_puts, 0, [((-1000), 200)], [.inr (.inr (.inl [0])), .inr (.inr (.inl [519, 520, 521])), .inl (some 0, 0), .inl (none, 0)], [((0, 35), (none, 160))], [(1, ((-1000), 200), [], [], [((0, 35), (161, 161))])], [(0, 35, 1), (519, 160, 1), (520, 160, 1), (521, 160, 1)])
set_option maxRecDepth 20000 in
abbrev xx_X11_puts_160 : scX := (Tm, invM, lnX11, [], cc_X11_puts_160)
set_option maxRecDepth 20000 in
theorem hh_X11_puts_160 : scH Tm invM cc_X11_puts_160 := scCheck_ok (X := xx_X11_puts_160) (nodes := []) (fuel := 4000) ⟨lqX11, fa_nil⟩ dtX11_puts (by decide +kernel)
abbrev cc_X11_puts_161 : scC := (qX11_puts, 0, [((-1000), 200)], [.inr (.inr (.inl [0])), .inr (.inr (.inl [519, 520, 521])), .inl (some 0, 0), .inl (none, 0)], [((0, 35), (none, 161))], [(1, ((-1000), 200), [], [], [((0, 35), (162, 162))])], [(0, 35, 1), (519, 161, 1), (520, 161, 1), (521, 161, 1)])
set_option maxRecDepth 20000 in
abbrev xx_X11_puts_161 : scX := (Tm, invM, lnX11, [], cc_X11_puts_161)
set_option maxRecDepth 20000 in
theorem hh_X11_puts_161 : scH Tm invM cc_X11_puts_161 := scCheck_ok (X := xx_X11_puts_161) (nodes := []) (fuel := 4000) ⟨lqX11, fa_nil⟩ dtX11_puts (by decide +kernel)
abbrev cc_X11_puts_162 : scC := (qX11_puts, 0, [((-1000), 200)], [.inr (.inr (.inl [0])), .inr (.inr (.inl [519, 520, 521])), .inl (some 0, 0), .inl (none, 0)], [((0, 35), (none, 162))], [(1, ((-1000), 200), [], [], [((0, 35), (163, 163))])], [(0, 35, 1), (519, 162, 1), (520, 162, 1), (521, 162, 1)])
set_option maxRecDepth 20000 in
abbrev xx_X11_puts_162 : scX := (Tm, invM, lnX11, [], cc_X11_puts_162)
set_option maxRecDepth 20000 in
theorem hh_X11_puts_162 : scH Tm invM cc_X11_puts_162 := scCheck_ok (X := xx_X11_puts_162) (nodes := []) (fuel := 4000) ⟨lqX11, fa_nil⟩ dtX11_puts (by decide +kernel)
abbrev cc_X11_puts_163 : scC := (qX11_puts, 0, [((-1000), 200)], [.inr (.inr (.inl [0])), .inr (.inr (.inl [519, 520, 521])), .inl (some 0, 0), .inl (none, 0)], [((0, 35), (none, 163))], [(1, ((-1000), 200), [], [], [((0, 35), (164, 164))])], [(0, 35, 1), (519, 163, 1), (520, 163, 1), (521, 163, 1)])
set_option maxRecDepth 20000 in
abbrev xx_X11_puts_163 : scX := (Tm, invM, lnX11, [], cc_X11_puts_163)
set_option maxRecDepth 20000 in
theorem hh_X11_puts_163 : scH Tm invM cc_X11_puts_163 := scCheck_ok (X := xx_X11_puts_163) (nodes := []) (fuel := 4000) ⟨lqX11, fa_nil⟩ dtX11_puts (by decide +kernel)
abbrev cc_X11_puts_164 : scC := (qX11_puts, 0, [(0, 12)], [.inr (.inr (.inl [0])), .inr (.inr (.inl [519, 520, 521])), .inl (some 0, 0), .inl (none, 0)], [((0, 35), (none, 164))], [(1, (0, 12), [], [], [((0, 35), (165, 165))])], [(0, 35, 1), (519, 164, 1), (520, 164, 1), (521, 164, 1)])
set_option maxRecDepth 20000 in
abbrev xx_X11_puts_164 : scX := (Tm, invM, lnX11, [], cc_X11_puts_164)
set_option maxRecDepth 20000 in
theorem hh_X11_puts_164 : scH Tm invM cc_X11_puts_164 := scCheck_ok (X := xx_X11_puts_164) (nodes := []) (fuel := 4000) ⟨lqX11, fa_nil⟩ dtX11_puts (by decide +kernel)
abbrev cc_X11_puts_165 : scC := (qX11_puts, 0, [(0, 200)], [.inr (.inr (.inl [0])), .inr (.inr (.inl [519, 520, 521])), .inl (some 0, 0), .inl (none, 0)], [((0, 35), (none, 165))], [(1, (0, 200), [], [], [((0, 35), (166, 166))])], [(0, 35, 1), (519, 165, 1), (520, 165, 1), (521, 165, 1)])
set_option maxRecDepth 20000 in
abbrev xx_X11_puts_165 : scX := (Tm, invM, lnX11, [], cc_X11_puts_165)
set_option maxRecDepth 20000 in
theorem hh_X11_puts_165 : scH Tm invM cc_X11_puts_165 := scCheck_ok (X := xx_X11_puts_165) (nodes := []) (fuel := 4000) ⟨lqX11, fa_nil⟩ dtX11_puts (by decide +kernel)
abbrev cc_X11_puts_166 : scC := (qX11_puts, 0, [((-2147483648), 2147483647)], [.inr (.inr (.inl [0])), .inr (.inr (.inl [519, 520, 521])), .inl (some 0, 0), .inl (none, 0)], [((0, 35), (none, 166))], [(1, ((-2147483648), 2147483647), [], [], [((0, 35), (167, 167))])], [(0, 35, 1), (519, 166, 1), (520, 166, 1), (521, 166, 1)])
set_option maxRecDepth 20000 in
abbrev xx_X11_puts_166 : scX := (Tm, invM, lnX11, [], cc_X11_puts_166)
set_option maxRecDepth 20000 in
theorem hh_X11_puts_166 : scH Tm invM cc_X11_puts_166 := scCheck_ok (X := xx_X11_puts_166) (nodes := []) (fuel := 4000) ⟨lqX11, fa_nil⟩ dtX11_puts (by decide +kernel)
abbrev cc_X11_puts_167 : scC := (qX11_puts, 0, [((-2147483648), 2147483647)], [.inr (.inr (.inl [0])), .inr (.inr (.inl [519, 520, 521])), .inl (some 0, 0), .inl (none, 0)], [((0, 35), (none, 167))], [(1, ((-2147483648), 2147483647), [], [], [((0, 35), (168, 168))])], [(0, 35, 1), (519, 167, 1), (520, 167, 1), (521, 167, 1)])
set_option maxRecDepth 20000 in
abbrev xx_X11_puts_167 : scX := (Tm, invM, lnX11, [], cc_X11_puts_167)
set_option maxRecDepth 20000 in
theorem hh_X11_puts_167 : scH Tm invM cc_X11_puts_167 := scCheck_ok (X := xx_X11_puts_167) (nodes := []) (fuel := 4000) ⟨lqX11, fa_nil⟩ dtX11_puts (by decide +kernel)
abbrev cc_X11_puts_168 : scC := (qX11_puts, 0, [((-2147483648), 2147483647)], [.inr (.inr (.inl [0])), .inr (.inr (.inl [519, 520, 521])), .inl (some 0, 0), .inl (none, 0)], [((0, 35), (none, 168))], [(1, ((-2147483648), 2147483647), [], [], [((0, 35), (169, 169))])], [(0, 35, 1), (519, 168, 1), (520, 168, 1), (521, 168, 1)])
set_option maxRecDepth 20000 in
abbrev xx_X11_puts_168 : scX := (Tm, invM, lnX11, [], cc_X11_puts_168)
set_option maxRecDepth 20000 in
theorem hh_X11_puts_168 : scH Tm invM cc_X11_puts_168 := scCheck_ok (X := xx_X11_puts_168) (nodes := []) (fuel := 4000) ⟨lqX11, fa_nil⟩ dtX11_puts (by decide +kernel)
abbrev cc_X11_puts_169 : scC := (qX11_puts, 0, [((-2147483648), 2147483647)], [.inr (.inr (.inl [0])), .inr (.inr (.inl [519, 520, 521])), .inl (some 0, 0), .inl (none, 0)], [((0, 35), (none, 169))], [(1, ((-2147483648), 2147483647), [], [], [((0, 35), (170, 170))])], [(0, 35, 1), (519, 169, 1), (520, 169, 1), (521, 169, 1)])
set_option maxRecDepth 20000 in
abbrev xx_X11_puts_169 : scX := (Tm, invM, lnX11, [], cc_X11_puts_169)
set_option maxRecDepth 20000 in
theorem hh_X11_puts_169 : scH Tm invM cc_X11_puts_169 := scCheck_ok (X := xx_X11_puts_169) (nodes := []) (fuel := 4000) ⟨lqX11, fa_nil⟩ dtX11_puts (by decide +kernel)
abbrev cc_X11_puts_170 : scC := (qX11_puts, 0, [((-1000), 200)], [.inr (.inr (.inl [0])), .inr (.inr (.inl [519, 520, 521])), .inl (some 0, 0), .inl (none, 0)], [((0, 35), (none, 170))], [(1, ((-1000), 200), [], [], [((0, 35), (171, 171))])], [(0, 35, 1), (519, 170, 1), (520, 170, 1), (521, 170, 1)])
set_option maxRecDepth 20000 in
abbrev xx_X11_puts_170 : scX := (Tm, invM, lnX11, [], cc_X11_puts_170)
set_option maxRecDepth 20000 in
theorem hh_X11_puts_170 : scH Tm invM cc_X11_puts_170 := scCheck_ok (X := xx_X11_puts_170) (nodes := []) (fuel := 4000) ⟨lqX11, fa_nil⟩ dtX11_puts (by decide +kernel)
abbrev cc_X11_puts_171 : scC := (qX11_puts, 0, [((-1000), 200)], [.inr (.inr (.inl [0])), .inr (.inr (.inl [519, 520, 521])), .inl (some 0, 0), .inl (none, 0)], [((0, 35), (none, 171))], [(1, ((-1000), 200), [], [], [((0, 35), (172, 172))])], [(0, 35, 1), (519, 171, 1), (520, 171, 1), (521, 171, 1)])
set_option maxRecDepth 20000 in
abbrev xx_X11_puts_171 : scX := (Tm, invM, lnX11, [], cc_X11_puts_171)
set_option maxRecDepth 20000 in
theorem hh_X11_puts_171 : scH Tm invM cc_X11_puts_171 := scCheck_ok (X := xx_X11_puts_171) (nodes := []) (fuel := 4000) ⟨lqX11, fa_nil⟩ dtX11_puts (by decide +kernel)
abbrev cc_X11_puts_172 : scC := (qX11_puts, 0, [((-1000), 200)], [.inr (.inr (.inl [0])), .inr (.inr (.inl [519, 520, 521])), .inl (some 0, 0), .inl (none, 0)], [((0, 35), (none, 172))], [(1, ((-1000), 200), [], [], [((0, 35), (173, 173))])], [(0, 35, 1), (519, 172, 1), (520, 172, 1), (521, 172, 1)])
set_option maxRecDepth 20000 in
abbrev xx_X11_puts_172 : scX := (Tm, invM, lnX11, [], cc_X11_puts_172)
set_option maxRecDepth 20000 in
theorem hh_X11_puts_172 : scH Tm invM cc_X11_puts_172 := scCheck_ok (X := xx_X11_puts_172) (nodes := []) (fuel := 4000) ⟨lqX11, fa_nil⟩ dtX11_puts (by decide +kernel)
abbrev cc_X11_puts_173 : scC := (qX11_puts, 0, [((-1000), 200)], [.inr (.inr (.inl [0])), .inr (.inr (.inl [519, 520, 521])), .inl (some 0, 0), .inl (none, 0)], [((0, 35), (none, 173))], [(1, ((-1000), 200), [], [], [((0, 35), (174, 174))])], [(0, 35, 1), (519, 173, 1), (520, 173, 1), (521, 173, 1)])
set_option maxRecDepth 20000 in
abbrev xx_X11_puts_173 : scX := (Tm, invM, lnX11, [], cc_X11_puts_173)
set_option maxRecDepth 20000 in
theorem hh_X11_puts_173 : scH Tm invM cc_X11_puts_173 := scCheck_ok (X := xx_X11_puts_173) (nodes := []) (fuel := 4000) ⟨lqX11, fa_nil⟩ dtX11_puts (by decide +kernel)
abbrev cc_X11_puts_174 : scC := (qX11_puts, 0, [((-1000), 200)], [.inr (.inr (.inl [0])), .inr (.inr (.inl [519, 520, 521])), .inl (some 0, 0), .inl (none, 0)], [((0, 35), (none, 174))], [(1, ((-1000), 200), [], [], [((0, 35), (175, 175))])], [(0, 35, 1), (519, 174, 1), (520, 174, 1), (521, 174, 1)])
set_option maxRecDepth 20000 in
abbrev xx_X11_puts_174 : scX := (Tm, invM, lnX11, [], cc_X11_puts_174)
set_option maxRecDepth 20000 in
theorem hh_X11_puts_174 : scH Tm invM cc_X11_puts_174 := scCheck_ok (X := xx_X11_puts_174) (nodes := []) (fuel := 4000) ⟨lqX11, fa_nil⟩ dtX11_puts (by decide +kernel)
abbrev cc_X11_puts_175 : scC := (qX11_puts, 0, [((-1000), 200)], [.inr (.inr (.inl [0])), .inr (.inr (.inl [519, 520, 521])), .inl (some 0, 0), .inl (none, 0)], [((0, 35), (none, 175))], [(1, ((-1000), 200), [], [], [((0, 35), (176, 176))])], [(0, 35, 1), (519, 175, 1), (520, 175, 1), (521, 175, 1)])
set_option maxRecDepth 20000 in
abbrev xx_X11_puts_175 : scX := (Tm, invM, lnX11, [], cc_X11_puts_175)
set_option maxRecDepth 20000 in
theorem hh_X11_puts_175 : scH Tm invM cc_X11_puts_175 := scCheck_ok (X := xx_X11_puts_175) (nodes := []) (fuel := 4000) ⟨lqX11, fa_nil⟩ dtX11_puts (by decide +kernel)
abbrev cc_X11_puts_176 : scC := (qX11_puts, 0, [((-1000), 200)], [.inr (.inr (.inl [0])), .inr (.inr (.inl [519, 520, 521])), .inl (some 0, 0), .inl (none, 0)], [((0, 35), (none, 176))], [(1, ((-1000), 200), [], [], [((0, 35), (177, 177))])], [(0, 35, 1), (519, 176, 1), (520, 176, 1), (521, 176, 1)])
set_option maxRecDepth 20000 in
abbrev xx_X11_puts_176 : scX := (Tm, invM, lnX11, [], cc_X11_puts_176)
set_option maxRecDepth 20000 in
theorem hh_X11_puts_176 : scH Tm invM cc_X11_puts_176 := scCheck_ok (X := xx_X11_puts_176) (nodes := []) (fuel := 4000) ⟨lqX11, fa_nil⟩ dtX11_puts (by decide +kernel)
abbrev cc_X11_puts_177 : scC := (qX11_puts, 0, [((-1000), 200)], [.inr (.inr (.inl [0])), .inr (.inr (.inl [519, 520, 521])), .inl (some 0, 0), .inl (none, 0)], [((0, 35), (none, 177))], [(1, ((-1000), 200), [], [], [((0, 35), (178, 178))])], [(0, 35, 1), (519, 177, 1), (520, 177, 1), (521, 177, 1)])
set_option maxRecDepth 20000 in
abbrev xx_X11_puts_177 : scX := (Tm, invM, lnX11, [], cc_X11_puts_177)
set_option maxRecDepth 20000 in
theorem hh_X11_puts_177 : scH Tm invM cc_X11_puts_177 := scCheck_ok (X := xx_X11_puts_177) (nodes := []) (fuel := 4000) ⟨lqX11, fa_nil⟩ dtX11_puts (by decide +kernel)
abbrev cc_X11_puts_178 : scC := (qX11_puts, 0, [(0, 12)], [.inr (.inr (.inl [0])), .inr (.inr (.inl [519, 520, 521])), .inl (some 0, 0), .inl (none, 0)], [((0, 35), (none, 178))], [(1, (0, 12), [], [], [((0, 35), (179, 179))])], [(0, 35, 1), (519, 178, 1), (520, 178, 1), (521, 178, 1)])
set_option maxRecDepth 20000 in
abbrev xx_X11_puts_178 : scX := (Tm, invM, lnX11, [], cc_X11_puts_178)
set_option maxRecDepth 20000 in
theorem hh_X11_puts_178 : scH Tm invM cc_X11_puts_178 := scCheck_ok (X := xx_X11_puts_178) (nodes := []) (fuel := 4000) ⟨lqX11, fa_nil⟩ dtX11_puts (by decide +kernel)
abbrev cc_X11_puts_179 : scC := (qX11_puts, 0, [(0, 200)], [.inr (.inr (.inl [0])), .inr (.inr (.inl [519, 520, 521])), .inl (some 0, 0), .inl (none, 0)], [((0, 35), (none, 179))], [(1, (0, 200), [], [], [((0, 35), (180, 180))])], [(0, 35, 1), (519, 179, 1), (520, 179, 1), (521, 179, 1)])
set_option maxRecDepth 20000 in
abbrev xx_X11_puts_179 : scX := (Tm, invM, lnX11, [], cc_X11_puts_179)
set_option maxRecDepth 20000 in
theorem hh_X11_puts_179 : scH Tm invM cc_X11_puts_179 := scCheck_ok (X := xx_X11_puts_179) (nodes := []) (fuel := 4000) ⟨lqX11, fa_nil⟩ dtX11_puts (by decide +kernel)
abbrev cc_X11_puts_180 : scC := (qX11_puts, 0, [((-2147483648), 2147483647)], [.inr (.inr (.inl [0])), .inr (.inr (.inl [519, 520, 521])), .inl (some 0, 0), .inl (none, 0)], [((0, 35), (none, 180))], [(1, ((-2147483648), 2147483647), [], [], [((0, 35), (181, 181))])], [(0, 35, 1), (519, 180, 1), (520, 180, 1), (521, 180, 1)])
set_option maxRecDepth 20000 in
abbrev xx_X11_puts_180 : scX := (Tm, invM, lnX11, [], cc_X11_puts_180)
set_option maxRecDepth 20000 in
theorem hh_X11_puts_180 : scH Tm invM cc_X11_puts_180 := scCheck_ok (X := xx_X11_puts_180) (nodes := []) (fuel := 4000) ⟨lqX11, fa_nil⟩ dtX11_puts (by decide +kernel)
abbrev cc_X11_puts_181 : scC := (qX11_puts, 0, [((-2147483648), 2147483647)], [.inr (.inr (.inl [0])), .inr (.inr (.inl [519, 520, 521])), .inl (some 0, 0), .inl (none, 0)], [((0, 35), (none, 181))], [(1, ((-2147483648), 2147483647), [], [], [((0, 35), (182, 182))])], [(0, 35, 1), (519, 181, 1), (520, 181, 1), (521, 181, 1)])
set_option maxRecDepth 20000 in
abbrev xx_X11_puts_181 : scX := (Tm, invM, lnX11, [], cc_X11_puts_181)
set_option maxRecDepth 20000 in
theorem hh_X11_puts_181 : scH Tm invM cc_X11_puts_181 := scCheck_ok (X := xx_X11_puts_181) (nodes := []) (fuel := 4000) ⟨lqX11, fa_nil⟩ dtX11_puts (by decide +kernel)
abbrev cc_X11_puts_182 : scC := (qX11_puts, 0, [((-2147483648), 2147483647)], [.inr (.inr (.inl [0])), .inr (.inr (.inl [519, 520, 521])), .inl (some 0, 0), .inl (none, 0)], [((0, 35), (none, 182))], [(1, ((-2147483648), 2147483647), [], [], [((0, 35), (183, 183))])], [(0, 35, 1), (519, 182, 1), (520, 182, 1), (521, 182, 1)])
set_option maxRecDepth 20000 in
abbrev xx_X11_puts_182 : scX := (Tm, invM, lnX11, [], cc_X11_puts_182)
set_option maxRecDepth 20000 in
theorem hh_X11_puts_182 : scH Tm invM cc_X11_puts_182 := scCheck_ok (X := xx_X11_puts_182) (nodes := []) (fuel := 4000) ⟨lqX11, fa_nil⟩ dtX11_puts (by decide +kernel)
abbrev cc_X11_puts_183 : scC := (qX11_puts, 0, [((-2147483648), 2147483647)], [.inr (.inr (.inl [0])), .inr (.inr (.inl [519, 520, 521])), .inl (some 0, 0), .inl (none, 0)], [((0, 35), (none, 183))], [(1, ((-2147483648), 2147483647), [], [], [((0, 35), (184, 184))])], [(0, 35, 1), (519, 183, 1), (520, 183, 1), (521, 183, 1)])
set_option maxRecDepth 20000 in
abbrev xx_X11_puts_183 : scX := (Tm, invM, lnX11, [], cc_X11_puts_183)
set_option maxRecDepth 20000 in
theorem hh_X11_puts_183 : scH Tm invM cc_X11_puts_183 := scCheck_ok (X := xx_X11_puts_183) (nodes := []) (fuel := 4000) ⟨lqX11, fa_nil⟩ dtX11_puts (by decide +kernel)
abbrev cc_X11_puts_184 : scC := (qX11_puts, 0, [((-1000), 200)], [.inr (.inr (.inl [0])), .inr (.inr (.inl [519, 520, 521])), .inl (some 0, 0), .inl (none, 0)], [((0, 35), (none, 184))], [(1, ((-1000), 200), [], [], [((0, 35), (185, 185))])], [(0, 35, 1), (519, 184, 1), (520, 184, 1), (521, 184, 1)])
set_option maxRecDepth 20000 in
abbrev xx_X11_puts_184 : scX := (Tm, invM, lnX11, [], cc_X11_puts_184)
set_option maxRecDepth 20000 in
theorem hh_X11_puts_184 : scH Tm invM cc_X11_puts_184 := scCheck_ok (X := xx_X11_puts_184) (nodes := []) (fuel := 4000) ⟨lqX11, fa_nil⟩ dtX11_puts (by decide +kernel)
abbrev cc_X11_puts_185 : scC := (qX11_puts, 0, [((-1000), 200)], [.inr (.inr (.inl [0])), .inr (.inr (.inl [519, 520, 521])), .inl (some 0, 0), .inl (none, 0)], [((0, 35), (none, 185))], [(1, ((-1000), 200), [], [], [((0, 35), (186, 186))])], [(0, 35, 1), (519, 185, 1), (520, 185, 1), (521, 185, 1)])
set_option maxRecDepth 20000 in
abbrev xx_X11_puts_185 : scX := (Tm, invM, lnX11, [], cc_X11_puts_185)
set_option maxRecDepth 20000 in
theorem hh_X11_puts_185 : scH Tm invM cc_X11_puts_185 := scCheck_ok (X := xx_X11_puts_185) (nodes := []) (fuel := 4000) ⟨lqX11, fa_nil⟩ dtX11_puts (by decide +kernel)
abbrev cc_X11_puts_186 : scC := (qX11_puts, 0, [((-1000), 200)], [.inr (.inr (.inl [0])), .inr (.inr (.inl [519, 520, 521])), .inl (some 0, 0), .inl (none, 0)], [((0, 35), (none, 186))], [(1, ((-1000), 200), [], [], [((0, 35), (187, 187))])], [(0, 35, 1), (519, 186, 1), (520, 186, 1), (521, 186, 1)])
set_option maxRecDepth 20000 in
abbrev xx_X11_puts_186 : scX := (Tm, invM, lnX11, [], cc_X11_puts_186)
set_option maxRecDepth 20000 in
theorem hh_X11_puts_186 : scH Tm invM cc_X11_puts_186 := scCheck_ok (X := xx_X11_puts_186) (nodes := []) (fuel := 4000) ⟨lqX11, fa_nil⟩ dtX11_puts (by decide +kernel)
abbrev cc_X11_puts_187 : scC := (qX11_puts, 0, [((-1000), 200)], [.inr (.inr (.inl [0])), .inr (.inr (.inl [519, 520, 521])), .inl (some 0, 0), .inl (none, 0)], [((0, 35), (none, 187))], [(1, ((-1000), 200), [], [], [((0, 35), (188, 188))])], [(0, 35, 1), (519, 187, 1), (520, 187, 1), (521, 187, 1)])
set_option maxRecDepth 20000 in
abbrev xx_X11_puts_187 : scX := (Tm, invM, lnX11, [], cc_X11_puts_187)
set_option maxRecDepth 20000 in
theorem hh_X11_puts_187 : scH Tm invM cc_X11_puts_187 := scCheck_ok (X := xx_X11_puts_187) (nodes := []) (fuel := 4000) ⟨lqX11, fa_nil⟩ dtX11_puts (by decide +kernel)
abbrev cc_X11_puts_188 : scC := (qX11_puts, 0, [((-1000), 200)], [.inr (.inr (.inl [0])), .inr (.inr (.inl [519, 520, 521])), .inl (some 0, 0), .inl (none, 0)], [((0, 35), (none, 188))], [(1, ((-1000), 200), [], [], [((0, 35), (189, 189))])], [(0, 35, 1), (519, 188, 1), (520, 188, 1), (521, 188, 1)])
set_option maxRecDepth 20000 in
abbrev xx_X11_puts_188 : scX := (Tm, invM, lnX11, [], cc_X11_puts_188)
set_option maxRecDepth 20000 in
theorem hh_X11_puts_188 : scH Tm invM cc_X11_puts_188 := scCheck_ok (X := xx_X11_puts_188) (nodes := []) (fuel := 4000) ⟨lqX11, fa_nil⟩ dtX11_puts (by decide +kernel)
abbrev cc_X11_puts_189 : scC := (qX11_puts, 0, [((-1000), 200)], [.inr (.inr (.inl [0])), .inr (.inr (.inl [519, 520, 521])), .inl (some 0, 0), .inl (none, 0)], [((0, 35), (none, 189))], [(1, ((-1000), 200), [], [], [((0, 35), (190, 190))])], [(0, 35, 1), (519, 189, 1), (520, 189, 1), (521, 189, 1)])
set_option maxRecDepth 20000 in
abbrev xx_X11_puts_189 : scX := (Tm, invM, lnX11, [], cc_X11_puts_189)
set_option maxRecDepth 20000 in
theorem hh_X11_puts_189 : scH Tm invM cc_X11_puts_189 := scCheck_ok (X := xx_X11_puts_189) (nodes := []) (fuel := 4000) ⟨lqX11, fa_nil⟩ dtX11_puts (by decide +kernel)
abbrev cc_X11_puts_190 : scC := (qX11_puts, 0, [((-1000), 200)], [.inr (.inr (.inl [0])), .inr (.inr (.inl [519, 520, 521])), .inl (some 0, 0), .inl (none, 0)], [((0, 35), (none, 190))], [(1, ((-1000), 200), [], [], [((0, 35), (191, 191))])], [(0, 35, 1), (519, 190, 1), (520, 190, 1), (521, 190, 1)])
set_option maxRecDepth 20000 in
abbrev xx_X11_puts_190 : scX := (Tm, invM, lnX11, [], cc_X11_puts_190)
set_option maxRecDepth 20000 in
theorem hh_X11_puts_190 : scH Tm invM cc_X11_puts_190 := scCheck_ok (X := xx_X11_puts_190) (nodes := []) (fuel := 4000) ⟨lqX11, fa_nil⟩ dtX11_puts (by decide +kernel)
abbrev cc_X11_puts_191 : scC := (qX11_puts, 0, [((-1000), 200)], [.inr (.inr (.inl [0])), .inr (.inr (.inl [519, 520, 521])), .inl (some 0, 0), .inl (none, 0)], [((0, 35), (none, 191))], [(1, ((-1000), 200), [], [], [((0, 35), (192, 192))])], [(0, 35, 1), (519, 191, 1), (520, 191, 1), (521, 191, 1)])
set_option maxRecDepth 20000 in
abbrev xx_X11_puts_191 : scX := (Tm, invM, lnX11, [], cc_X11_puts_191)
set_option maxRecDepth 20000 in
theorem hh_X11_puts_191 : scH Tm invM cc_X11_puts_191 := scCheck_ok (X := xx_X11_puts_191) (nodes := []) (fuel := 4000) ⟨lqX11, fa_nil⟩ dtX11_puts (by decide +kernel)
abbrev cc_X11_puts_192 : scC := (qX11_puts, 0, [(0, 12)], [.inr (.inr (.inl [0])), .inr (.inr (.inl [519, 520, 521])), .inl (some 0, 0), .inl (none, 0)], [((0, 35), (none, 192))], [(1, (0, 12), [], [], [((0, 35), (193, 193))])], [(0, 35, 1), (519, 192, 1), (520, 192, 1), (521, 192, 1)])
set_option maxRecDepth 20000 in
abbrev xx_X11_puts_192 : scX := (Tm, invM, lnX11, [], cc_X11_puts_192)
set_option maxRecDepth 20000 in
theorem hh_X11_puts_192 : scH Tm invM cc_X11_puts_192 := scCheck_ok (X := xx_X11_puts_192) (nodes := []) (fuel := 4000) ⟨lqX11, fa_nil⟩ dtX11_puts (by decide +kernel)
abbrev cc_X11_puts_193 : scC := (qX11_puts, 0, [(0, 200)], [.inr (.inr (.inl [0])), .inr (.inr (.inl [519, 520, 521])), .inl (some 0, 0), .inl (none, 0)], [((0, 35), (none, 193))], [(1, (0, 200), [], [], [((0, 35), (194, 194))])], [(0, 35, 1), (519, 193, 1), (520, 193, 1), (521, 193, 1)])
set_option maxRecDepth 20000 in
abbrev xx_X11_puts_193 : scX := (Tm, invM, lnX11, [], cc_X11_puts_193)
set_option maxRecDepth 20000 in
theorem hh_X11_puts_193 : scH Tm invM cc_X11_puts_193 := scCheck_ok (X := xx_X11_puts_193) (nodes := []) (fuel := 4000) ⟨lqX11, fa_nil⟩ dtX11_puts (by decide +kernel)
abbrev cc_X11_puts_194 : scC := (qX11_puts, 0, [((-2147483648), 2147483647)], [.inr (.inr (.inl [0])), .inr (.inr (.inl [519, 520, 521])), .inl (some 0, 0), .inl (none, 0)], [((0, 35), (none, 194))], [(1, ((-2147483648), 2147483647), [], [], [((0, 35), (195, 195))])], [(0, 35, 1), (519, 194, 1), (520, 194, 1), (521, 194, 1)])
set_option maxRecDepth 20000 in
abbrev xx_X11_puts_194 : scX := (Tm, invM, lnX11, [], cc_X11_puts_194)
set_option maxRecDepth 20000 in
theorem hh_X11_puts_194 : scH Tm invM cc_X11_puts_194 := scCheck_ok (X := xx_X11_puts_194) (nodes := []) (fuel := 4000) ⟨lqX11, fa_nil⟩ dtX11_puts (by decide +kernel)
abbrev cc_X11_puts_195 : scC := (qX11_puts, 0, [((-2147483648), 2147483647)], [.inr (.inr (.inl [0])), .inr (.inr (.inl [519, 520, 521])), .inl (some 0, 0), .inl (none, 0)], [((0, 35), (none, 195))], [(1, ((-2147483648), 2147483647), [], [], [((0, 35), (196, 196))])], [(0, 35, 1), (519, 195, 1), (520, 195, 1), (521, 195, 1)])
set_option maxRecDepth 20000 in
abbrev xx_X11_puts_195 : scX := (Tm, invM, lnX11, [], cc_X11_puts_195)
set_option maxRecDepth 20000 in
theorem hh_X11_puts_195 : scH Tm invM cc_X11_puts_195 := scCheck_ok (X := xx_X11_puts_195) (nodes := []) (fuel := 4000) ⟨lqX11, fa_nil⟩ dtX11_puts (by decide +kernel)
abbrev cc_X11_puts_196 : scC := (qX11_puts, 0, [((-2147483648), 2147483647)], [.inr (.inr (.inl [0])), .inr (.inr (.inl [519, 520, 521])), .inl (some 0, 0), .inl (none, 0)], [((0, 35), (none, 196))], [(1, ((-2147483648), 2147483647), [], [], [((0, 35), (197, 197))])], [(0, 35, 1), (519, 196, 1), (520, 196, 1), (521, 196, 1)])
set_option maxRecDepth 20000 in
abbrev xx_X11_puts_196 : scX := (Tm, invM, lnX11, [], cc_X11_puts_196)
set_option maxRecDepth 20000 in
theorem hh_X11_puts_196 : scH Tm invM cc_X11_puts_196 := scCheck_ok (X := xx_X11_puts_196) (nodes := []) (fuel := 4000) ⟨lqX11, fa_nil⟩ dtX11_puts (by decide +kernel)
abbrev cc_X11_puts_197 : scC := (qX11_puts, 0, [((-2147483648), 2147483647)], [.inr (.inr (.inl [0])), .inr (.inr (.inl [519, 520, 521])), .inl (some 0, 0), .inl (none, 0)], [((0, 35), (none, 197))], [(1, ((-2147483648), 2147483647), [], [], [((0, 35), (198, 198))])], [(0, 35, 1), (519, 197, 1), (520, 197, 1), (521, 197, 1)])
set_option maxRecDepth 20000 in
abbrev xx_X11_puts_197 : scX := (Tm, invM, lnX11, [], cc_X11_puts_197)
set_option maxRecDepth 20000 in
theorem hh_X11_puts_197 : scH Tm invM cc_X11_puts_197 := scCheck_ok (X := xx_X11_puts_197) (nodes := []) (fuel := 4000) ⟨lqX11, fa_nil⟩ dtX11_puts (by decide +kernel)
abbrev cc_X11_puts_198 : scC := (qX11_puts, 0, [((-1000), 200)], [.inr (.inr (.inl [0])), .inr (.inr (.inl [519, 520, 521])), .inl (some 0, 0), .inl (none, 0)], [((0, 35), (none, 198))], [(1, ((-1000), 200), [], [], [((0, 35), (199, 199))])], [(0, 35, 1), (519, 198, 1), (520, 198, 1), (521, 198, 1)])
set_option maxRecDepth 20000 in
abbrev xx_X11_puts_198 : scX := (Tm, invM, lnX11, [], cc_X11_puts_198)
set_option maxRecDepth 20000 in
theorem hh_X11_puts_198 : scH Tm invM cc_X11_puts_198 := scCheck_ok (X := xx_X11_puts_198) (nodes := []) (fuel := 4000) ⟨lqX11, fa_nil⟩ dtX11_puts (by decide +kernel)
abbrev cc_X11_puts_199 : scC := (qX11_puts, 0, [((-1000), 200)], [.inr (.inr (.inl [0])), .inr (.inr (.inl [519, 520, 521])), .inl (some 0, 0), .inl (none, 0)], [((0, 35), (none, 199))], [(1, ((-1000), 200), [], [], [((0, 35), (200, 200))])], [(0, 35, 1), (519, 199, 1), (520, 199, 1), (521, 199, 1)])
set_option maxRecDepth 20000 in
abbrev xx_X11_puts_199 : scX := (Tm, invM, lnX11, [], cc_X11_puts_199)
set_option maxRecDepth 20000 in
theorem hh_X11_puts_199 : scH Tm invM cc_X11_puts_199 := scCheck_ok (X := xx_X11_puts_199) (nodes := []) (fuel := 4000) ⟨lqX11, fa_nil⟩ dtX11_puts (by decide +kernel)
abbrev cc_X11_puts_200 : scC := (qX11_puts, 0, [((-1000), 200)], [.inr (.inr (.inl [0])), .inr (.inr (.inl [519, 520, 521])), .inl (some 0, 0), .inl (none, 0)], [((0, 35), (none, 200))], [(1, ((-1000), 200), [], [], [((0, 35), (201, 201))])], [(0, 35, 1), (519, 200, 1), (520, 200, 1), (521, 200, 1)])
set_option maxRecDepth 20000 in
abbrev xx_X11_puts_200 : scX := (Tm, invM, lnX11, [], cc_X11_puts_200)
set_option maxRecDepth 20000 in
theorem hh_X11_puts_200 : scH Tm invM cc_X11_puts_200 := scCheck_ok (X := xx_X11_puts_200) (nodes := []) (fuel := 4000) ⟨lqX11, fa_nil⟩ dtX11_puts (by decide +kernel)
